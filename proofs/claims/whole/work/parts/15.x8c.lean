theorem rsn_ans (x : Int32) : rsn x.toInt64 = 0 := by
  unfold rsn
  rw [if_neg]
  intro h
  have h1 := Int64.lt_iff_toInt_lt.mp h
  rw [Int32.toInt_toInt64] at h1
  have h2 := Int32.le_toInt x
  have h3 : (-2147483648 : Int64).toInt = -2147483648 := rfl
  omega
theorem wi8 {r : Int32} (h : wi r 8 = true) : r = 0 ∨ r = 1 ∨ r = 2 ∨ r = 3 ∨ r = 4 ∨ r = 5 ∨ r = 6 ∨ r = 7 := by
  have h1 := Int32.le_iff_toInt_le.mp (wi_1 h)
  have h2 := Int32.lt_iff_toInt_lt.mp (wi_2 h)
  have h3 : (0 : Int32).toInt = 0 := rfl
  have h4 : (8 : Int32).toInt = 8 := rfl
  rw [gx_i r 0 (a := 0) rfl, gx_i r 1 (a := 1) rfl, gx_i r 2 (a := 2) rfl, gx_i r 3 (a := 3) rfl, gx_i r 4 (a := 4) rfl, gx_i r 5 (a := 5) rfl, gx_i r 6 (a := 6) rfl, gx_i r 7 (a := 7) rfl]
  omega
theorem rsn_oc {r : Int32 × Int32} (h : wi r.1 8 = true) : rsn (oc r) = r.1 := by
  obtain ⟨a, b⟩ := r
  rcases wi8 h with h | h | h | h | h | h | h | h
  · have h : a = 0 := h
    subst h
    exact rsn_ans b
  · have h : a = 1 := h
    subst h
    exact (show rsn (fl 1) = 1 by decide +kernel)
  · have h : a = 2 := h
    subst h
    exact (show rsn (fl 2) = 2 by decide +kernel)
  · have h : a = 3 := h
    subst h
    exact (show rsn (fl 3) = 3 by decide +kernel)
  · have h : a = 4 := h
    subst h
    exact (show rsn (fl 4) = 4 by decide +kernel)
  · have h : a = 5 := h
    subst h
    exact (show rsn (fl 5) = 5 by decide +kernel)
  · have h : a = 6 := h
    subst h
    exact (show rsn (fl 6) = 6 by decide +kernel)
  · have h : a = 7 := h
    subst h
    exact (show rsn (fl 7) = 7 by decide +kernel)
theorem sr_len (n : Int32) : wi (spLen n).1 8 = true := by unfold spLen; split <;> rfl
theorem sr_row (n k i : Int32) : wi (spRow n k i).1 8 = true := by unfold spRow; split; rfl; split <;> rfl
theorem sr_long (a b d : Int32) (T : Sg) : wi (spLong a b d T).1 8 = true := by
  unfold spLong
  split
  · exact sr_len _
  · split
    · exact sr_len _
    · split
      · exact sr_len _
      · exact sr_row _ _ _
theorem sr_fit (q : Nat) (a b d : Int32) (T : Sg) : wi (spFit q a b d T).1.1 8 = true := by unfold spFit; split; rfl; split <;> rfl
theorem sr_true (b : Int32) (x : aS) (T : Sg) : wi (spTrue b x T).1.1 8 = true := by unfold spTrue; split <;> rfl
theorem sr_count (b : Int32) (x : aS) (T : Sg) : wi (spCount b x T).1.1 8 = true := by unfold spCount; split <;> rfl
theorem sr_put (a b d : Int32) (T : Sg) : wi (spPut a b d T).1.1 8 = true := by unfold spPut; split; rfl; split <;> rfl
theorem sr_add (a b d : Int32) (T : Sg) : wi (spAdd a b d T).1.1 8 = true := by unfold spAdd; split; rfl; split <;> rfl
theorem sr_hang (a b d : Int32) (T : Sg) : wi (spHang a b d T).1.1 8 = true := by unfold spHang; split; rfl; split; (split <;> rfl); rfl
theorem sr_bal (a b : Int32) (T : Sg) : wi (spBal a b T).1.1 8 = true := by unfold spBal; split; rfl; split; (split; rfl; split <;> rfl); rfl
theorem sr_light (x : aS) (b d : Int32) : wi (spLight x b d).1.1 8 = true := by unfold spLight; split <;> rfl
theorem sr_shine (x : aS) (b : Int32) : wi (spShine x b).1.1 8 = true := by unfold spShine; split; rfl; split; rfl; split <;> rfl
theorem spDo_r {q : Nat} {k a b d : Int32} {T : Sg} (hI : Inv T) (ha : ix a < 4) : wi (spDo q k a b d T).1.1 8 = true := by
  have hE : wi (tEx T (ix a)) 8 = true := by rcases hI.2.2.2.2.2 _ ha with z | z | z <;> rw [z] <;> decide
  unfold spDo
  by_cases h0 : k = 0
  · rw [if_pos h0]; rfl
  rw [if_neg h0]
  by_cases h1 : k = 1
  · rw [if_pos h1]; rfl
  rw [if_neg h1]
  by_cases h2 : k = 2
  · rw [if_pos h2]; exact sr_fit _ _ _ _ _
  rw [if_neg h2]
  by_cases h3 : k = 3
  · rw [if_pos h3]; exact sr_true _ _ _
  rw [if_neg h3]
  by_cases h4 : k = 4
  · rw [if_pos h4]; exact sr_count _ _ _
  rw [if_neg h4]
  by_cases h5 : k = 5
  · rw [if_pos h5]; exact sr_light _ _ _
  rw [if_neg h5]
  by_cases h6 : k = 6
  · rw [if_pos h6]; exact sr_shine _ _
  rw [if_neg h6]
  by_cases h7 : k = 7
  · rw [if_pos h7]; split <;> rfl
  rw [if_neg h7]
  by_cases h8 : k = 8
  · rw [if_pos h8]; split <;> rfl
  rw [if_neg h8]
  by_cases h9 : k = 9
  · rw [if_pos h9]; split <;> rfl
  rw [if_neg h9]
  by_cases h10 : k = 10
  · rw [if_pos h10]; exact sr_long _ _ _ _
  rw [if_neg h10]
  by_cases h11 : k = 11
  · rw [if_pos h11]; exact sr_put _ _ _ _
  rw [if_neg h11]
  by_cases h12 : k = 12
  · rw [if_pos h12]; exact sr_add _ _ _ _
  rw [if_neg h12]
  by_cases h13 : k = 13
  · rw [if_pos h13]; exact sr_hang _ _ _ _
  rw [if_neg h13]
  by_cases h14 : k = 14
  · rw [if_pos h14]; exact sr_bal _ _ _
  rw [if_neg h14]
  by_cases h15 : k = 15
  · rw [if_pos h15]; rfl
  rw [if_neg h15]
  show wi (if b = 0 then ((0 : Int32), (0 : Int32)) else (tEx T (ix a), 0)).1 8 = true
  split
  · rfl
  · exact hE
def spTold (R : aRe) (k : Int32) : Int32 := if k = 0 then R.1 else if k = 1 then R.2.1 else if k = 2 then R.2.2.1 else if k = 3 then R.2.2.2.1 else if k = 4 then R.2.2.2.2.1 else -2
def spTally (T : Sg) (r : Int32) : Int32 := if wi (r - 1) 7 = true then tTa T (ix r) else -2
theorem wi7t {r : Int32} (h1 : ¬ r < 1) (h2 : ¬ 7 < r) : wi (r - 1) 7 = true ∧ wi r 8 = true := by
  have a1 := Int32.le_iff_toInt_le.mp (i_nlt.mp h1)
  have a2 := Int32.le_iff_toInt_le.mp (i_nlt.mp h2)
  have h3 : (1 : Int32).toInt = 1 := rfl
  have h4 : (7 : Int32).toInt = 7 := rfl
  have h5 : r = 1 ∨ r = 2 ∨ r = 3 ∨ r = 4 ∨ r = 5 ∨ r = 6 ∨ r = 7 := by
    rw [gx_i r 1 (a := 1) rfl, gx_i r 2 (a := 2) rfl, gx_i r 3 (a := 3) rfl, gx_i r 4 (a := 4) rfl, gx_i r 5 (a := 5) rfl, gx_i r 6 (a := 6) rfl, gx_i r 7 (a := 7) rfl]
    omega
  rcases h5 with h | h | h | h | h | h | h <;> (rw [h]; decide)
theorem wi7f {r : Int32} (h : r < 1 ∨ 7 < r) : wi (r - 1) 7 = false := by
  cases hw : wi (r - 1) 7 with
  | false => rfl
  | true =>
    exfalso
    obtain ⟨j, hj, e⟩ := vp_in_of (wi_in hw (N := 7) (by decide)) (by decide)
    have e2 : r = nI (j + 1) := by
      have : r = (r - 1) + 1 := by simp
      rw [this, e, nI_1]
    rw [e2] at h
    rcases h with h | h
    · exact absurd h (i_nlt.mpr (show nI 1 ≤ nI (j + 1) from nI_le (by omega) (by omega)))
    · exact absurd h (i_nlt.mpr (show nI (j + 1) ≤ nI 7 from nI_le (by omega) (by omega)))
def spRack (T : Sg) (a i : Int32) : Int32 := if wi a 4 = true then (match (if wi i (tRa T (ix a)).1 = true then (tRa T (ix a)).2.2 (ix i) else none) with
  | none => -2147483648
  | some q => whL (W9 T q)) else -2147483648
theorem rk_w {T : Sg} (hI : Inv T) {n q : Nat} (hn : n < 4) {i : Int32} (hq : (if wi i (tRa T n).1 = true then (tRa T n).2.2 (ix i) else none) = some q) : (tWh T q).isSome = true := by
  split at hq
  · rename_i z
    exact (hI.2.2.1 n hn).2 _ q (wi_lt (wi_le z (hI.2.2.1 n hn).1.2) (by decide)) hq
  · cases hq
set_option maxHeartbeats 4000000 in
set_option maxRecDepth 100000 in
theorem c_X8_attempt (l : Launch) (D : va_G) (cs : Nat → ClassId) (w : fW) (sz : Nat) (ad : Nat → Nat) (T : Sg) (jf : Nat → Nat → Option Nat) (hW : SW cs ad T jf w) (hI : Inv T) (k a b d : Int32) (hok : okS k a b d = true) : gM l bs_B nw_B D cls10 (tyl cs) yX8_attempt cX8_attempt 8 (some .long) 4 90 1 3 w sz [.ref (ad 0), .int k, .int a, .int b, .int d] (fun v w' => ∃ q, w q = none ∧ v = some (.long (oc (spAt q k a b d T).1)) ∧ SW cs ad (spAt q k a b d T).2 jf w') := by
  refine gM.of (by decide +kernel) (Nat.le_of_ble_eq_true rfl) (fun p e s m below meth c A ls X hsz hnm hF hS hl => ?_)
  have hx := X.1
  have hb := X.2.1
  have hl : lv_has ls 8 [(0, .ref (ad 0)), (1, .int k), (2, .int a), (3, .int b), (4, .int d)] := hl
  refine lv_aload_n hx hb dX8_attempt_0 rfl (lv_at hl 0 rfl) ?_
  refine lv_iload_n hx hb dX8_attempt_1 rfl (lv_at hl 1 rfl) ?_
  refine lv_iload_n hx hb dX8_attempt_2 rfl (lv_at hl 2 rfl) ?_
  refine lv_iload_n hx hb dX8_attempt_3 rfl (lv_at hl 3 rfl) ?_
  refine lv_iload hx hb dX8_attempt_4 (lv_at hl 4 rfl) ?_
  refine fw_callV (As := [.int k, .int a, .int b, .int d]) (rest := []) X bs_all nw_all mf_X8_perform (c_X8_perform l D cs _ _ ad T jf hW hI k a b d hok) wm_215 wm_217 wm_1 hF hS rfl (hW.2.1) rfl rfl ((⟨⟨Nat.le_of_ble_eq_true rfl, Nat.le_of_ble_eq_true rfl⟩, Nat.le_of_ble_eq_true rfl, Nat.le_of_ble_eq_true rfl⟩)) rfl hl.1 rfl (Nat.le_of_ble_eq_true rfl) dX8_attempt_6 (fun v u1 H locs hp hF hS hz1 hk1 hd1 => ?_)
  obtain ⟨q9, hq9, rfl, hW1⟩ := hp
  have hR8 := spDo_r (q := q9) (k := k) (b := b) (d := d) hI (wi_lt (ok_a hok) (N := 4) (by decide))
  generalize hr9 : spDo q9 k a b d T = r9 at hW1 hR8 ⊢
  have hR := rsn_oc hR8
  refine W.eq (g2 := F0 m 9 ls [.long (oc r9.1)]) rfl ?_
  refine lv_lstore (lv' := [(5, .long (oc r9.1)), (0, .ref (ad 0)), (1, .int k), (2, .int a), (3, .int b), (4, .int d)]) hx hb dX8_attempt_9 hl (by decide) rfl (fun ls hl => ?_)
  refine lv_lload hx hb dX8_attempt_11 (lv_at hl 0 rfl) ?_
  refine fw_callS (As := [.long (oc r9.1)]) (rest := []) X bs_all nw_all mf_X8_reasonOf (c_X8_reasonOf l D cs _ _ (oc r9.1)) wm_342 wm_343 hF hS rfl ((⟨⟨Nat.le_of_ble_eq_true rfl, Nat.le_of_ble_eq_true rfl⟩, Nat.le_of_ble_eq_true rfl, Nat.le_of_ble_eq_true rfl⟩)) rfl hl.1 rfl (Nat.le_of_ble_eq_true rfl) dX8_attempt_13 (fun v u2 H locs hp hF hS hz1 hk1 hd1 => ?_)
  obtain ⟨rfl, hw1⟩ := hp
  rw [hw1] at hF
  refine W.eq (g2 := F0 m 16 ls [.int (rsn (oc r9.1))]) rfl ?_
  refine lv_istore (lv' := [(7, .int (rsn (oc r9.1))), (5, .long (oc r9.1)), (0, .ref (ad 0)), (1, .int k), (2, .int a), (3, .int b), (4, .int d)]) hx hb dX8_attempt_16 hl (by decide) rfl (fun ls hl => ?_)
  refine lv_iload hx hb dX8_attempt_18 (lv_at hl 0 rfl) ?_
  refine lv_iconst (v := 1) hx hb dX8_attempt_20 (by decide) ?_
  refine lv_icmp_lt (tgt := 42) hx hb dX8_attempt_21 (by decide) (fun c21_3 => ?_) (fun c21_3 => ?_)
  · refine lv_lload hx hb dX8_attempt_42 (lv_at hl 1 rfl) ?_
    refine fw_lret X hF hS ?_ (Nat.le_of_ble_eq_true rfl) (Nat.le_of_ble_eq_true rfl) dX8_attempt_44
    have z9 : r9.1.1 = 0 := by rw [hR] at c21_3; rcases wi8 hR8 with z | z | z | z | z | z | z | z <;> first | exact z | (exfalso; rw [z] at c21_3; revert c21_3; decide)
    refine ⟨q9, hq9, ?_, ?_⟩
    · simp only [spAt, hr9]
    · simp only [spAt, hr9, z9, if_true]; exact hW1
  · refine lv_iload hx hb dX8_attempt_24 (lv_at hl 0 rfl) ?_
    refine lv_bipush (v := 7) hx hb dX8_attempt_26 (by decide) ?_
    refine lv_icmp_gt (tgt := 42) hx hb dX8_attempt_28 (by decide) (fun c28_4 => ?_) (fun c28_4 => ?_)
    · refine lv_lload hx hb dX8_attempt_42 (lv_at hl 1 rfl) ?_
      refine fw_lret X hF hS ?_ (Nat.le_of_ble_eq_true rfl) (Nat.le_of_ble_eq_true rfl) dX8_attempt_44
      exfalso
      rw [hR] at c28_4
      rcases wi8 hR8 with z | z | z | z | z | z | z | z <;> (rw [z] at c28_4; revert c28_4; decide)
    · refine lv_aload_n hx hb dX8_attempt_31 rfl (lv_at hl 2 rfl) ?_
      refine fw_get X gC_ok hF (hW1.2.1) rfl 6 (by decide) wm_182 rfl dX8_attempt_32 ?_
      refine lv_iload hx hb dX8_attempt_35 (lv_at hl 0 rfl) ?_
      refine lv_dup2_11 hx hb dX8_attempt_37 rfl rfl ?_
      refine fw_iald X hF (hW1.2.2.2.2.2.2.2.2.1) 0 rfl (wi_in (n := 8) (show wi (rsn (oc r9.1)) 8 = true by rw [hR]; exact hR8) (N := 8) (by decide)) (v := (tTa r9.2) (ix (rsn (oc r9.1)))) rfl dX8_attempt_38 ?_
      refine lv_iconst (v := 1) hx hb dX8_attempt_39 (by decide) ?_
      refine lv_iadd hx hb dX8_attempt_40 ?_
      refine fw_iast X hF hS (hW1.2.2.2.2.2.2.2.2.1) 0 rfl (wi_in (n := 8) (show wi (rsn (oc r9.1)) 8 = true by rw [hR]; exact hR8) (N := 8) (by decide)) dX8_attempt_41 (fun H locs hF hS => ?_)
      have hF : fw_P D cls10 A (va_up u1 (ad 7) (some (.inl (cs 0, 8, .inl (upd (tTa r9.2) (ix (rsn (oc r9.1))) (((tTa r9.2) (ix (rsn (oc r9.1)))) + 1)))))) H := hF
      refine lv_lload hx hb dX8_attempt_42 (lv_at hl 1 rfl) ?_
      refine fw_lret X hF hS ?_ (Nat.le_of_ble_eq_true rfl) (Nat.le_of_ble_eq_true rfl) dX8_attempt_44
      have z9 : ¬ r9.1.1 = 0 := fun z => by rw [hR, z] at c21_3; revert c21_3; decide
      rw [hR]
      refine ⟨q9, hq9, ?_, ?_⟩
      · simp only [spAt, hr9]
      · simp only [spAt, hr9, if_neg z9]; exact hW1.ta _
set_option maxHeartbeats 4000000 in
set_option maxRecDepth 100000 in
theorem c_X8_act (l : Launch) (D : va_G) (cs : Nat → ClassId) (w : fW) (sz : Nat) (ad : Nat → Nat) (T : Sg) (jf : Nat → Nat → Option Nat) (hW : SW cs ad T jf w) (hI : Inv T) (k a b d : Int32) : gM l bs_B nw_B D cls10 (tyl cs) yX8_act cX8_act 5 (some .long) 5 117 1 3 w sz [.ref (ad 0), .int k, .int a, .int b, .int d] (fun v w' => (okS k a b d = true ∧ ∃ q, w q = none ∧ v = some (.long (oc (spAt q k a b d T).1)) ∧ SW cs ad (spAt q k a b d T).2 jf w') ∨ (okS k a b d = false ∧ v = some (.long (-9223372036854775808)) ∧ w' = w)) := by
  refine gM.of (by decide +kernel) (Nat.le_of_ble_eq_true rfl) (fun p e s m below meth c A ls X hsz hnm hF hS hl => ?_)
  have hx := X.1
  have hb := X.2.1
  have hl : lv_has ls 5 [(0, .ref (ad 0)), (1, .int k), (2, .int a), (3, .int b), (4, .int d)] := hl
  refine lv_iload_n hx hb dX8_act_0 rfl (lv_at hl 1 rfl) ?_
  refine lv_iload_n hx hb dX8_act_1 rfl (lv_at hl 2 rfl) ?_
  refine lv_iload_n hx hb dX8_act_2 rfl (lv_at hl 3 rfl) ?_
  refine lv_iload hx hb dX8_act_3 (lv_at hl 4 rfl) ?_
  refine fw_callS (As := [.int k, .int a, .int b, .int d]) (rest := []) X bs_all nw_all mf_X8_isStep (c_X8_isStep l D cs _ _ k a b d) wm_205 wm_206 hF hS rfl ((⟨⟨Nat.le_of_ble_eq_true rfl, Nat.le_of_ble_eq_true rfl⟩, Nat.le_of_ble_eq_true rfl, Nat.le_of_ble_eq_true rfl⟩)) rfl hl.1 rfl (Nat.le_of_ble_eq_true rfl) dX8_act_5 (fun v u1 H locs hp hF hS hz1 hk1 hd1 => ?_)
  obtain ⟨rfl, hw1⟩ := hp
  rw [hw1] at hF
  refine W.eq (g2 := F0 m 8 ls [.int (bz (okS k a b d))]) rfl ?_
  refine gx_ifeq (tgt := 23) hx hb dX8_act_8 (by decide) (fun c8_2 => ?_) (fun c8_2 => ?_)
  · refine lv_ldc2 (v := (-9223372036854775808)) hx hb X.2.2.2.1 (X.2.2.2.2.1 _ wm_235) dX8_act_23 ?_
    refine fw_lret X hF hS ?_ (Nat.le_of_ble_eq_true rfl) (Nat.le_of_ble_eq_true rfl) dX8_act_26
    exact Or.inr ⟨c8_2, rfl, rfl⟩
  · refine lv_aload_n hx hb dX8_act_11 rfl (lv_at hl 0 rfl) ?_
    refine lv_iload_n hx hb dX8_act_12 rfl (lv_at hl 1 rfl) ?_
    refine lv_iload_n hx hb dX8_act_13 rfl (lv_at hl 2 rfl) ?_
    refine lv_iload_n hx hb dX8_act_14 rfl (lv_at hl 3 rfl) ?_
    refine lv_iload hx hb dX8_act_15 (lv_at hl 4 rfl) ?_
    refine fw_callV (As := [.int k, .int a, .int b, .int d]) (rest := []) X bs_all nw_all mf_X8_attempt (c_X8_attempt l D cs _ _ ad T jf hW hI k a b d c8_2) wm_211 wm_213 wm_0 hF hS rfl (hW.2.1) rfl rfl ((⟨⟨Nat.le_of_ble_eq_true rfl, Nat.le_of_ble_eq_true rfl⟩, Nat.le_of_ble_eq_true rfl, Nat.le_of_ble_eq_true rfl⟩)) rfl hl.1 rfl (Nat.le_of_ble_eq_true rfl) dX8_act_17 (fun v u3 H locs hp hF hS hz1 hk1 hd1 => ?_)
    obtain ⟨q9, hq9, rfl, hW1⟩ := hp
    refine W.eq (g2 := F0 m 20 ls [.long (oc (spAt q9 k a b d T).1)]) rfl ?_
    refine lv_goto (tgt := 26) hx hb dX8_act_20 (by decide) ?_
    refine fw_lret X hF hS ?_ (Nat.le_of_ble_eq_true rfl) (Nat.le_of_ble_eq_true rfl) dX8_act_26
    exact Or.inl ⟨c8_2, q9, hq9, rfl, hW1⟩
set_option maxHeartbeats 4000000 in
set_option maxRecDepth 100000 in
theorem c_X8_told (l : Launch) (D : va_G) (cs : Nat → ClassId) (w : fW) (sz : Nat) (ad : Nat → Nat) (T : Sg) (jf : Nat → Nat → Option Nat) (hW : SW cs ad T jf w) (k : Int32) : gM l bs_B nw_B D cls10 (tyl cs) yX8_told cX8_told 2 (some .int) 0 0 0 0 w sz [.ref (ad 0), .int k] (fun v w' => v = some (.int (spTold (tRe T) k)) ∧ w' = w) := by
  refine gM.of (by decide +kernel) (Nat.le_of_ble_eq_true rfl) (fun p e s m below meth c A ls X hsz hnm hF hS hl => ?_)
  have hx := X.1
  have hb := X.2.1
  have hl : lv_has ls 2 [(0, .ref (ad 0)), (1, .int k)] := hl
  refine lv_iload_n hx hb dX8_told_0 rfl (lv_at hl 1 rfl) ?_
  rcases gx_sw5 k with sw1 | sw1 | sw1 | sw1 | sw1 | sw1
  · refine lv_tableIn (off := 35) (tgt := 36) hx hb dX8_told_1 (by rw [sw1]; decide) (by rw [sw1]; decide) (by rw [sw1]; rfl) (by decide) ?_
    refine lv_aload_n hx hb dX8_told_36 rfl (lv_at hl 0 rfl) ?_
    refine fw_get X gC_ok hF (hW.2.1) rfl 7 (by decide) wm_183 rfl dX8_told_37 ?_
    refine fw_get X gC_ok hF (hW.2.2.2.2.2.2.2.2.2.1) rfl 0 (by decide) wm_61 rfl dX8_told_40 ?_
    refine fw_iret X hF hS ?_ (Nat.le_of_ble_eq_true rfl) (Nat.le_of_ble_eq_true rfl) dX8_told_43
    exact ⟨by simp [spTold, sw1], rfl⟩
  · refine lv_tableIn (off := 43) (tgt := 44) hx hb dX8_told_1 (by rw [sw1]; decide) (by rw [sw1]; decide) (by rw [sw1]; rfl) (by decide) ?_
    refine lv_aload_n hx hb dX8_told_44 rfl (lv_at hl 0 rfl) ?_
    refine fw_get X gC_ok hF (hW.2.1) rfl 7 (by decide) wm_183 rfl dX8_told_45 ?_
    refine fw_get X gC_ok hF (hW.2.2.2.2.2.2.2.2.2.1) rfl 1 (by decide) wm_63 rfl dX8_told_48 ?_
    refine fw_iret X hF hS ?_ (Nat.le_of_ble_eq_true rfl) (Nat.le_of_ble_eq_true rfl) dX8_told_51
    exact ⟨by simp [spTold, sw1], rfl⟩
  · refine lv_tableIn (off := 51) (tgt := 52) hx hb dX8_told_1 (by rw [sw1]; decide) (by rw [sw1]; decide) (by rw [sw1]; rfl) (by decide) ?_
    refine lv_aload_n hx hb dX8_told_52 rfl (lv_at hl 0 rfl) ?_
    refine fw_get X gC_ok hF (hW.2.1) rfl 7 (by decide) wm_183 rfl dX8_told_53 ?_
    refine fw_get X gC_ok hF (hW.2.2.2.2.2.2.2.2.2.1) rfl 2 (by decide) wm_65 rfl dX8_told_56 ?_
    refine fw_iret X hF hS ?_ (Nat.le_of_ble_eq_true rfl) (Nat.le_of_ble_eq_true rfl) dX8_told_59
    exact ⟨by simp [spTold, sw1], rfl⟩
  · refine lv_tableIn (off := 59) (tgt := 60) hx hb dX8_told_1 (by rw [sw1]; decide) (by rw [sw1]; decide) (by rw [sw1]; rfl) (by decide) ?_
    refine lv_aload_n hx hb dX8_told_60 rfl (lv_at hl 0 rfl) ?_
    refine fw_get X gC_ok hF (hW.2.1) rfl 7 (by decide) wm_183 rfl dX8_told_61 ?_
    refine fw_get X gC_ok hF (hW.2.2.2.2.2.2.2.2.2.1) rfl 3 (by decide) wm_67 rfl dX8_told_64 ?_
    refine fw_iret X hF hS ?_ (Nat.le_of_ble_eq_true rfl) (Nat.le_of_ble_eq_true rfl) dX8_told_67
    exact ⟨by simp [spTold, sw1], rfl⟩
  · refine lv_tableIn (off := 67) (tgt := 68) hx hb dX8_told_1 (by rw [sw1]; decide) (by rw [sw1]; decide) (by rw [sw1]; rfl) (by decide) ?_
    refine lv_aload_n hx hb dX8_told_68 rfl (lv_at hl 0 rfl) ?_
    refine fw_get X gC_ok hF (hW.2.1) rfl 7 (by decide) wm_183 rfl dX8_told_69 ?_
    refine fw_get X gC_ok hF (hW.2.2.2.2.2.2.2.2.2.1) rfl 4 (by decide) wm_69 rfl dX8_told_72 ?_
    refine fw_iret X hF hS ?_ (Nat.le_of_ble_eq_true rfl) (Nat.le_of_ble_eq_true rfl) dX8_told_75
    exact ⟨by simp [spTold, sw1], rfl⟩
  · refine lv_tableOut (tgt := 76) hx hb dX8_told_1 sw1 (by decide) ?_
    have n0 : ¬ k = 0 := fun q => by rw [q] at sw1; revert sw1; decide
    have n1 : ¬ k = 1 := fun q => by rw [q] at sw1; revert sw1; decide
    have n2 : ¬ k = 2 := fun q => by rw [q] at sw1; revert sw1; decide
    have n3 : ¬ k = 3 := fun q => by rw [q] at sw1; revert sw1; decide
    have n4 : ¬ k = 4 := fun q => by rw [q] at sw1; revert sw1; decide
    refine lv_bipush (v := (-2)) hx hb dX8_told_76 (by decide) ?_
    refine fw_iret X hF hS ?_ (Nat.le_of_ble_eq_true rfl) (Nat.le_of_ble_eq_true rfl) dX8_told_78
    exact ⟨by simp [spTold, n0, n1, n2, n3, n4], rfl⟩
set_option maxHeartbeats 4000000 in
set_option maxRecDepth 100000 in
theorem c_X8_sum (l : Launch) (D : va_G) (cs : Nat → ClassId) (w : fW) (sz : Nat) (ad : Nat → Nat) (T : Sg) (jf : Nat → Nat → Option Nat) (hW : SW cs ad T jf w) : gM l bs_B nw_B D cls10 (tyl cs) yX8_sum cX8_sum 1 (some .long) 0 0 0 0 w sz [.ref (ad 0)] (fun v w' => v = some (.long (tRe T).2.2.2.2.2) ∧ w' = w) := by
  refine gM.of (by decide +kernel) (Nat.le_of_ble_eq_true rfl) (fun p e s m below meth c A ls X hsz hnm hF hS hl => ?_)
  have hx := X.1
  have hb := X.2.1
  have hl : lv_has ls 1 [(0, .ref (ad 0))] := hl
  refine lv_aload_n hx hb dX8_sum_0 rfl (lv_at hl 0 rfl) ?_
  refine fw_get X gC_ok hF (hW.2.1) rfl 7 (by decide) wm_183 rfl dX8_sum_1 ?_
  refine fw_get X gC_ok hF (hW.2.2.2.2.2.2.2.2.2.1) rfl 5 (by decide) wm_71 rfl dX8_sum_4 ?_
  refine fw_lret X hF hS ?_ (Nat.le_of_ble_eq_true rfl) (Nat.le_of_ble_eq_true rfl) dX8_sum_7
  exact ⟨rfl, rfl⟩
set_option maxHeartbeats 4000000 in
set_option maxRecDepth 100000 in
theorem c_X8_tally (l : Launch) (D : va_G) (cs : Nat → ClassId) (w : fW) (sz : Nat) (ad : Nat → Nat) (T : Sg) (jf : Nat → Nat → Option Nat) (hW : SW cs ad T jf w) (r : Int32) : gM l bs_B nw_B D cls10 (tyl cs) yX8_tally cX8_tally 2 (some .int) 0 0 0 0 w sz [.ref (ad 0), .int r] (fun v w' => v = some (.int (spTally T r)) ∧ w' = w) := by
  refine gM.of (by decide +kernel) (Nat.le_of_ble_eq_true rfl) (fun p e s m below meth c A ls X hsz hnm hF hS hl => ?_)
  have hx := X.1
  have hb := X.2.1
  have hl : lv_has ls 2 [(0, .ref (ad 0)), (1, .int r)] := hl
  refine lv_iload_n hx hb dX8_tally_0 rfl (lv_at hl 1 rfl) ?_
  refine lv_iconst (v := 1) hx hb dX8_tally_1 (by decide) ?_
  refine lv_icmp_lt (tgt := 20) hx hb dX8_tally_2 (by decide) (fun c2_1 => ?_) (fun c2_1 => ?_)
  · refine lv_bipush (v := (-2)) hx hb dX8_tally_20 (by decide) ?_
    refine fw_iret X hF hS ?_ (Nat.le_of_ble_eq_true rfl) (Nat.le_of_ble_eq_true rfl) dX8_tally_22
    have z : wi (r - 1) 7 = false := wi7f (Or.inl c2_1)
    exact ⟨by simp [spTally, z], rfl⟩
  · refine lv_iload_n hx hb dX8_tally_5 rfl (lv_at hl 1 rfl) ?_
    refine lv_bipush (v := 7) hx hb dX8_tally_6 (by decide) ?_
    refine lv_icmp_gt (tgt := 20) hx hb dX8_tally_8 (by decide) (fun c8_2 => ?_) (fun c8_2 => ?_)
    · refine lv_bipush (v := (-2)) hx hb dX8_tally_20 (by decide) ?_
      refine fw_iret X hF hS ?_ (Nat.le_of_ble_eq_true rfl) (Nat.le_of_ble_eq_true rfl) dX8_tally_22
      have z : wi (r - 1) 7 = false := wi7f (Or.inr c8_2)
      exact ⟨by simp [spTally, z], rfl⟩
    · have hz7 := wi7t c2_1 c8_2
      refine lv_aload_n hx hb dX8_tally_11 rfl (lv_at hl 0 rfl) ?_
      refine fw_get X gC_ok hF (hW.2.1) rfl 6 (by decide) wm_182 rfl dX8_tally_12 ?_
      refine lv_iload_n hx hb dX8_tally_15 rfl (lv_at hl 1 rfl) ?_
      refine fw_iald X hF (hW.2.2.2.2.2.2.2.2.1) 0 rfl (wi_in hz7.2 (N := 8) (by decide)) (v := (tTa T) (ix r)) rfl dX8_tally_16 ?_
      refine lv_goto (tgt := 22) hx hb dX8_tally_17 (by decide) ?_
      refine fw_iret X hF hS ?_ (Nat.le_of_ble_eq_true rfl) (Nat.le_of_ble_eq_true rfl) dX8_tally_22
      exact ⟨by simp [spTally, hz7.1], rfl⟩
set_option maxHeartbeats 4000000 in
set_option maxRecDepth 100000 in
theorem c_X8_basket (l : Launch) (D : va_G) (cs : Nat → ClassId) (w : fW) (sz : Nat) (ad : Nat → Nat) (T : Sg) (jf : Nat → Nat → Option Nat) (hW : SW cs ad T jf w) (hI : Inv T) (a i : Int32) : gM l bs_B nw_B D cls10 (tyl cs) yX8_basket cX8_basket 3 (some .int) 2 42 0 0 w sz [.ref (ad 0), .int a, .int i] (fun v w' => v = some (.int (if wi a 4 = true then (if wi i (tBa T (ix a)).1 = true then (tBa T (ix a)).2 (ix i) else 0) else 0)) ∧ w' = w) := by
  refine gM.of (by decide +kernel) (Nat.le_of_ble_eq_true rfl) (fun p e s m below meth c A ls X hsz hnm hF hS hl => ?_)
  have hx := X.1
  have hb := X.2.1
  have hl : lv_has ls 3 [(0, .ref (ad 0)), (1, .int a), (2, .int i)] := hl
  refine lv_iload_n hx hb dX8_basket_0 rfl (lv_at hl 1 rfl) ?_
  refine lv_iconst (v := 4) hx hb dX8_basket_1 (by decide) ?_
  refine fw_callS (As := [.int a, .int 4]) (rest := []) X bs_all nw_all mf_X8_isWithin (c_X8_isWithin l D cs _ _ a 4) wm_208 wm_209 hF hS rfl ((⟨⟨Nat.le_of_ble_eq_true rfl, Nat.le_of_ble_eq_true rfl⟩, Nat.le_of_ble_eq_true rfl, Nat.le_of_ble_eq_true rfl⟩)) rfl hl.1 rfl (Nat.le_of_ble_eq_true rfl) dX8_basket_2 (fun v u1 H locs hp hF hS hz1 hk1 hd1 => ?_)
  obtain ⟨rfl, hw1⟩ := hp
  rw [hw1] at hF
  refine W.eq (g2 := F0 m 5 ls [.int (bz (wi a 4))]) rfl ?_
  refine gx_ifeq (tgt := 21) hx hb dX8_basket_5 (by decide) (fun c5_2 => ?_) (fun c5_2 => ?_)
  · refine lv_iconst (v := 0) hx hb dX8_basket_21 (by decide) ?_
    refine fw_iret X hF hS ?_ (Nat.le_of_ble_eq_true rfl) (Nat.le_of_ble_eq_true rfl) dX8_basket_22
    exact ⟨by simp [c5_2], rfl⟩
  · have hA9 : ix a < 4 := wi_lt c5_2 (N := 4) (by decide)
    refine lv_aload_n hx hb dX8_basket_8 rfl (lv_at hl 0 rfl) ?_
    refine fw_get X gC_ok hF (hW.2.1) rfl 1 (by decide) wm_177 rfl dX8_basket_9 ?_
    refine lv_iload_n hx hb dX8_basket_12 rfl (lv_at hl 1 rfl) ?_
    refine fw_aldq X hF (hW.2.2.2.1) 3 rfl (wi_in c5_2 (N := 4) (by decide)) (v := some (ad (14 + (ix a)))) rfl dX8_basket_13 ?_
    refine W.eq (g2 := F0 m 14 ls [.ref (ad (14 + (ix a)))]) rfl ?_
    refine lv_iload_n hx hb dX8_basket_14 rfl (lv_at hl 2 rfl) ?_
    refine fw_callV (As := [.int i]) (rest := []) X bs_all nw_all mf_X0_numberAt (c_X0_numberAt l D cs _ _ (ad (14 + (ix a))) (ad (18 + (ix a))) ((tBa T (ix a)).1) ((tBa T (ix a)).2) (hW.2.2.2.2.2.2.2.2.2.2.2.1 (ix a) hA9) (hW.2.2.2.2.2.2.2.2.2.2.2.2.1 (ix a) hA9) i (hI.2.1 _ hA9).2) wm_452 wm_453 wm_454 hF hS rfl (hW.2.2.2.2.2.2.2.2.2.2.2.1 (ix a) hA9) rfl rfl ((⟨⟨Nat.le_of_ble_eq_true rfl, Nat.le_of_ble_eq_true rfl⟩, Nat.le_of_ble_eq_true rfl, Nat.le_of_ble_eq_true rfl⟩)) rfl hl.1 rfl (Nat.le_of_ble_eq_true rfl) dX8_basket_15 (fun v u3 H locs hp hF hS hz1 hk1 hd1 => ?_)
    obtain ⟨rfl, hw1⟩ := hp
    rw [hw1] at hF
    refine W.eq (g2 := F0 m 18 ls [.int (if wi i ((tBa T (ix a)).1) = true then ((tBa T (ix a)).2) (ix i) else 0)]) rfl ?_
    refine lv_goto (tgt := 22) hx hb dX8_basket_18 (by decide) ?_
    refine fw_iret X hF hS ?_ (Nat.le_of_ble_eq_true rfl) (Nat.le_of_ble_eq_true rfl) dX8_basket_22
    exact ⟨by simp [c5_2], rfl⟩
set_option maxHeartbeats 4000000 in
set_option maxRecDepth 100000 in
theorem c_X8_grid (l : Launch) (D : va_G) (cs : Nat → ClassId) (w : fW) (sz : Nat) (ad : Nat → Nat) (T : Sg) (jf : Nat → Nat → Option Nat) (hW : SW cs ad T jf w) (hI : Inv T) (a i j : Int32) : gM l bs_B nw_B D cls10 (tyl cs) yX8_grid cX8_grid 4 (some .int) 3 65 0 0 w sz [.ref (ad 0), .int a, .int i, .int j] (fun v w' => v = some (.int (if wi a 4 = true then (if (wi i (tGr T (ix a)).1 && wi j (tGr T (ix a)).2.1) = true then (tGr T (ix a)).2.2 (12 * ix i + ix j) else 0) else 0)) ∧ w' = w) := by
  refine gM.of (by decide +kernel) (Nat.le_of_ble_eq_true rfl) (fun p e s m below meth c A ls X hsz hnm hF hS hl => ?_)
  have hx := X.1
  have hb := X.2.1
  have hl : lv_has ls 4 [(0, .ref (ad 0)), (1, .int a), (2, .int i), (3, .int j)] := hl
  refine lv_iload_n hx hb dX8_grid_0 rfl (lv_at hl 1 rfl) ?_
  refine lv_iconst (v := 4) hx hb dX8_grid_1 (by decide) ?_
  refine fw_callS (As := [.int a, .int 4]) (rest := []) X bs_all nw_all mf_X8_isWithin (c_X8_isWithin l D cs _ _ a 4) wm_208 wm_209 hF hS rfl ((⟨⟨Nat.le_of_ble_eq_true rfl, Nat.le_of_ble_eq_true rfl⟩, Nat.le_of_ble_eq_true rfl, Nat.le_of_ble_eq_true rfl⟩)) rfl hl.1 rfl (Nat.le_of_ble_eq_true rfl) dX8_grid_2 (fun v u1 H locs hp hF hS hz1 hk1 hd1 => ?_)
  obtain ⟨rfl, hw1⟩ := hp
  rw [hw1] at hF
  refine W.eq (g2 := F0 m 5 ls [.int (bz (wi a 4))]) rfl ?_
  refine gx_ifeq (tgt := 22) hx hb dX8_grid_5 (by decide) (fun c5_2 => ?_) (fun c5_2 => ?_)
  · refine lv_iconst (v := 0) hx hb dX8_grid_22 (by decide) ?_
    refine fw_iret X hF hS ?_ (Nat.le_of_ble_eq_true rfl) (Nat.le_of_ble_eq_true rfl) dX8_grid_23
    exact ⟨by simp [c5_2], rfl⟩
  · have hA9 : ix a < 4 := wi_lt c5_2 (N := 4) (by decide)
    refine lv_aload_n hx hb dX8_grid_8 rfl (lv_at hl 0 rfl) ?_
    refine fw_get X gC_ok hF (hW.2.1) rfl 3 (by decide) wm_179 rfl dX8_grid_9 ?_
    refine lv_iload_n hx hb dX8_grid_12 rfl (lv_at hl 1 rfl) ?_
    refine fw_aldq X hF (hW.2.2.2.2.2.1) 5 rfl (wi_in c5_2 (N := 4) (by decide)) (v := some (ad (30 + (ix a)))) rfl dX8_grid_13 ?_
    refine W.eq (g2 := F0 m 14 ls [.ref (ad (30 + (ix a)))]) rfl ?_
    refine lv_iload_n hx hb dX8_grid_14 rfl (lv_at hl 2 rfl) ?_
    refine lv_iload_n hx hb dX8_grid_15 rfl (lv_at hl 3 rfl) ?_
    refine fw_callV (As := [.int i, .int j]) (rest := []) X bs_all nw_all mf_X1_numberAt (c_X1_numberAt l D cs _ _ (ad (30 + (ix a))) (ad (34 + (ix a))) ((tGr T (ix a)).1) ((tGr T (ix a)).2.1) ((tGr T (ix a)).2.2) (hW.2.2.2.2.2.2.2.2.2.2.2.2.2.2.2.1 (ix a) hA9) (hW.2.2.2.2.2.2.2.2.2.2.2.2.2.2.2.2.1 (ix a) hA9) i j (hI.2.2.2.1 _ hA9).1.2 (hI.2.2.2.1 _ hA9).2.2) wm_469 wm_470 wm_471 hF hS rfl (hW.2.2.2.2.2.2.2.2.2.2.2.2.2.2.2.1 (ix a) hA9) rfl rfl ((⟨⟨Nat.le_of_ble_eq_true rfl, Nat.le_of_ble_eq_true rfl⟩, Nat.le_of_ble_eq_true rfl, Nat.le_of_ble_eq_true rfl⟩)) rfl hl.1 rfl (Nat.le_of_ble_eq_true rfl) dX8_grid_16 (fun v u3 H locs hp hF hS hz1 hk1 hd1 => ?_)
    obtain ⟨rfl, hw1⟩ := hp
    rw [hw1] at hF
    refine W.eq (g2 := F0 m 19 ls [.int (if (wi i ((tGr T (ix a)).1) && wi j ((tGr T (ix a)).2.1)) = true then ((tGr T (ix a)).2.2) (12 * ix i + ix j) else 0)]) rfl ?_
    refine lv_goto (tgt := 23) hx hb dX8_grid_19 (by decide) ?_
    refine fw_iret X hF hS ?_ (Nat.le_of_ble_eq_true rfl) (Nat.le_of_ble_eq_true rfl) dX8_grid_23
    exact ⟨by simp [c5_2], rfl⟩
set_option maxHeartbeats 4000000 in
set_option maxRecDepth 100000 in
theorem c_X8_rack (l : Launch) (D : va_G) (cs : Nat → ClassId) (w : fW) (sz : Nat) (ad : Nat → Nat) (T : Sg) (jf : Nat → Nat → Option Nat) (hW : SW cs ad T jf w) (hI : Inv T) (a i : Int32) : gM l bs_B nw_B D cls10 (tyl cs) yX8_rack cX8_rack 4 (some .int) 2 42 0 0 w sz [.ref (ad 0), .int a, .int i] (fun v w' => v = some (.int (spRack T a i)) ∧ w' = w) := by
  refine gM.of (by decide +kernel) (Nat.le_of_ble_eq_true rfl) (fun p e s m below meth c A ls X hsz hnm hF hS hl => ?_)
  have hx := X.1
  have hb := X.2.1
  have hl : lv_has ls 4 [(0, .ref (ad 0)), (1, .int a), (2, .int i)] := hl
  refine lv_iload_n hx hb dX8_rack_0 rfl (lv_at hl 1 rfl) ?_
  refine lv_iconst (v := 4) hx hb dX8_rack_1 (by decide) ?_
  refine fw_callS (As := [.int a, .int 4]) (rest := []) X bs_all nw_all mf_X8_isWithin (c_X8_isWithin l D cs _ _ a 4) wm_208 wm_209 hF hS rfl ((⟨⟨Nat.le_of_ble_eq_true rfl, Nat.le_of_ble_eq_true rfl⟩, Nat.le_of_ble_eq_true rfl, Nat.le_of_ble_eq_true rfl⟩)) rfl hl.1 rfl (Nat.le_of_ble_eq_true rfl) dX8_rack_2 (fun v u1 H locs hp hF hS hz1 hk1 hd1 => ?_)
  obtain ⟨rfl, hw1⟩ := hp
  rw [hw1] at hF
  refine W.eq (g2 := F0 m 5 ls [.int (bz (wi a 4))]) rfl ?_
  refine gx_ifeq (tgt := 21) hx hb dX8_rack_5 (by decide) (fun c5_2 => ?_) (fun c5_2 => ?_)
  · refine lv_null hx hb dX8_rack_21 ?_
    refine lv_astore_nN (lv' := [(3, .null), (0, .ref (ad 0)), (1, .int a), (2, .int i)]) hx hb dX8_rack_22 rfl hl (by decide) rfl (fun ls hl => ?_)
    refine lv_aload_nN hx hb dX8_rack_23 rfl (lv_at hl 0 rfl) ?_
    refine lv_ifnonnullN hx hb dX8_rack_24 ?_
    refine lv_ldc (v := (-2147483648)) hx hb X.2.2.2.1 (X.2.2.2.2.1 _ wm_434) dX8_rack_27 ?_
    refine lv_goto (tgt := 36) hx hb dX8_rack_29 (by decide) ?_
    refine fw_iret X hF hS ?_ (Nat.le_of_ble_eq_true rfl) (Nat.le_of_ble_eq_true rfl) dX8_rack_36
    refine ⟨?_, rfl⟩
    unfold spRack
    simp [c5_2]
  · have hA9 : ix a < 4 := wi_lt c5_2 (N := 4) (by decide)
    refine lv_aload_n hx hb dX8_rack_8 rfl (lv_at hl 0 rfl) ?_
    refine fw_get X gC_ok hF (hW.2.1) rfl 2 (by decide) wm_178 rfl dX8_rack_9 ?_
    refine lv_iload_n hx hb dX8_rack_12 rfl (lv_at hl 1 rfl) ?_
    refine fw_aldq X hF (hW.2.2.2.2.1) 4 rfl (wi_in c5_2 (N := 4) (by decide)) (v := some (ad (22 + (ix a)))) rfl dX8_rack_13 ?_
    refine W.eq (g2 := F0 m 14 ls [.ref (ad (22 + (ix a)))]) rfl ?_
    refine lv_iload_n hx hb dX8_rack_14 rfl (lv_at hl 2 rfl) ?_
    refine fw_callV (As := [.int i]) (rest := []) X bs_all nw_all mf_X3_wheelAt (c_X3_wheelAt l D cs _ _ (ad (22 + (ix a))) (ad (26 + (ix a))) ((tRa T (ix a)).1) ((tRa T (ix a)).2.1) ((tRa T (ix a)).2.2) (hW.2.2.2.2.2.2.2.2.2.2.2.2.2.1 (ix a) hA9) (hW.2.2.2.2.2.2.2.2.2.2.2.2.2.2.1 (ix a) hA9) i (hI.2.2.1 _ hA9).1.2) wm_460 wm_461 wm_462 hF hS rfl (hW.2.2.2.2.2.2.2.2.2.2.2.2.2.1 (ix a) hA9) rfl rfl ((⟨⟨Nat.le_of_ble_eq_true rfl, Nat.le_of_ble_eq_true rfl⟩, Nat.le_of_ble_eq_true rfl, Nat.le_of_ble_eq_true rfl⟩)) rfl hl.1 rfl (Nat.le_of_ble_eq_true rfl) dX8_rack_15 (fun v u3 H locs hp hF hS hz1 hk1 hd1 => ?_)
    obtain ⟨rfl, hw1⟩ := hp
    rw [hw1] at hF
    refine W.eq (g2 := F0 m 18 ls [va_rf (if wi i ((tRa T (ix a)).1) = true then ((tRa T (ix a)).2.2) (ix i) else none)]) rfl ?_
    refine lv_goto (tgt := 22) hx hb dX8_rack_18 (by decide) ?_
    refine gx_astore_nq (i := 3) (lv' := [(3, va_rf (if wi i ((tRa T (ix a)).1) = true then ((tRa T (ix a)).2.2) (ix i) else none)), (0, .ref (ad 0)), (1, .int a), (2, .int i)]) hx hb dX8_rack_22 rfl hl (by decide) (by simp [gx_cat, Value.category]) (fun ls hl => ?_)
    refine gx_aload_nq hx hb dX8_rack_23 rfl (lv_at hl 0 rfl) ?_
    refine gx_ifnonnull (tgt := 32) hx hb dX8_rack_24 (by decide) (fun hq4 => ?_) (fun q4 hq4 => ?_)
    · have hl : lv_has ls 4 [(3, .null), (0, .ref (ad 0)), (1, .int a), (2, .int i)] := by rw [hq4] at hl; exact hl
      refine lv_ldc (v := (-2147483648)) hx hb X.2.2.2.1 (X.2.2.2.2.1 _ wm_434) dX8_rack_27 ?_
      refine lv_goto (tgt := 36) hx hb dX8_rack_29 (by decide) ?_
      refine fw_iret X hF hS ?_ (Nat.le_of_ble_eq_true rfl) (Nat.le_of_ble_eq_true rfl) dX8_rack_36
      refine ⟨?_, rfl⟩
      unfold spRack
      rw [if_pos c5_2, hq4]
    · have hl : lv_has ls 4 [(3, .ref q4), (0, .ref (ad 0)), (1, .int a), (2, .int i)] := by rw [hq4] at hl; exact hl
      refine lv_aload_n hx hb dX8_rack_32 rfl (lv_at hl 0 rfl) ?_
      refine fw_callV (As := []) (rest := []) X bs_all nw_all mf_X7_label (c_X7_label l D cs _ _ q4 (((W9 T) q4).1) (((W9 T) q4).2.2) (((W9 T) q4).2.1) ((fun q hq => hW.whl (rk_w hI hA9 hq)) q4 hq4)) wm_464 wm_335 wm_336 hF hS rfl ((fun q hq => hW.whl (rk_w hI hA9 hq)) q4 hq4) rfl rfl ((⟨⟨Nat.le_of_ble_eq_true rfl, Nat.le_of_ble_eq_true rfl⟩, Nat.le_of_ble_eq_true rfl, Nat.le_of_ble_eq_true rfl⟩)) rfl hl.1 rfl (Nat.le_of_ble_eq_true rfl) dX8_rack_33 (fun v u5 H locs hp hF hS hz1 hk1 hd1 => ?_)
      obtain ⟨rfl, hw1⟩ := hp
      rw [hw1] at hF
      refine W.eq (g2 := F0 m 36 ls [.int (whL (((W9 T) q4).1, ((W9 T) q4).2.1, ((W9 T) q4).2.2))]) rfl ?_
      refine fw_iret X hF hS ?_ (Nat.le_of_ble_eq_true rfl) (Nat.le_of_ble_eq_true rfl) dX8_rack_36
      refine ⟨?_, rfl⟩
      unfold spRack
      rw [if_pos c5_2, hq4]
