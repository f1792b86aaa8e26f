theorem spGo_eq {q : Nat} {x : aSp} {n : Int32} {T : Sg} {r : (Int32 × Int32) × Sg} (h : spAt q x.1 x.2.1 x.2.2.1 x.2.2.2.1 T = r) : spGo q x n T = if r.1.1 = 0 then (true, setRe r.2 ((tRe r.2).1 + 1, (tRe r.2).2.1, (tRe r.2).2.2.1, (tRe r.2).2.2.2.1, (tRe r.2).2.2.2.2.1, (tRe r.2).2.2.2.2.2 + r.1.2.toInt64)) else (false, setRe r.2 ((tRe r.2).1, (tRe r.2).2.1 + 1, r.1.1, n, (tRe r.2).2.2.2.2.1, (tRe r.2).2.2.2.2.2)) := by subst h; rfl
theorem ix_lt {i n : Int32} (h : wi i n = true) : ix i < ix n := by
  have h1 := ix_int (wi_1 h)
  have h2 := Int32.lt_iff_toInt_lt.mp (wi_2 h)
  have h3 := Int32.le_iff_toInt_le.mp (wi_1 h)
  have h4 : (0 : Int32).toInt = 0 := rfl
  have h5 : (ix n : Int) = n.toInt := by show (n.toInt.toNat : Int) = n.toInt; omega
  omega
set_option maxHeartbeats 4000000 in
set_option maxRecDepth 100000 in
theorem c_X8_isDone (l : Launch) (D : va_G) (cs : Nat → ClassId) (w : fW) (sz : Nat) (ad : Nat → Nat) (T : Sg) (jf : Nat → Nat → Option Nat) (hW : SW cs ad T jf w) (hI : Inv T) (j : Nat) (hj : j < 4) (n : Int32) (hwn : wi n (tJo T j).1 = true) : gM l bs_B nw_B D cls10 (tyl cs) yX8_isDone cX8_isDone 7 (some .boolean) 5 117 1 3 w sz [.ref (ad 0), .ref (ad (38 + j)), .int n] (fun v w' => ∃ q, w q = none ∧ v = some (.int (bz (spGo q ((tJo T j).2 (ix n)) n T).1)) ∧ SW cs ad (spGo q ((tJo T j).2 (ix n)) n T).2 jf w') := by
  refine gM.of (by decide +kernel) (Nat.le_of_ble_eq_true rfl) (fun p e s m below meth c A ls X hsz hnm hF hS hl => ?_)
  have hx := X.1
  have hb := X.2.1
  have hl : lv_has ls 7 [(0, .ref (ad 0)), (1, .ref (ad (38 + j))), (2, .int n)] := hl
  have hlt : ix n < ix (tJo T j).1 := ix_lt hwn
  obtain ⟨q5, hq5, hc5⟩ := hW.2.2.2.2.2.2.2.2.2.2.2.2.2.2.2.2.2.2.2.2 j (ix n) hj hlt
  have hok := ((hI.2.2.2.2.1 j hj).2.2 (ix n) hlt).1
  refine lv_aload_n hx hb dX8_isDone_0 rfl (lv_at hl 1 rfl) ?_
  refine lv_iload_n hx hb dX8_isDone_1 rfl (lv_at hl 2 rfl) ?_
  refine fw_callV (As := [.int n]) (rest := []) X bs_all nw_all mf_X2_stepAt (c_X2_stepAt l D cs _ _ (ad (38 + j)) (ad (42 + j)) ((tJo T j).1) (jf j) (hW.2.2.2.2.2.2.2.2.2.2.2.2.2.2.2.2.2.1 j hj) (hW.2.2.2.2.2.2.2.2.2.2.2.2.2.2.2.2.2.2.1 j hj) n (hI.2.2.2.2.1 j hj).2.1) wm_401 wm_402 wm_403 hF hS rfl (hW.2.2.2.2.2.2.2.2.2.2.2.2.2.2.2.2.2.1 j hj) rfl rfl ((⟨⟨Nat.le_of_ble_eq_true rfl, Nat.le_of_ble_eq_true rfl⟩, Nat.le_of_ble_eq_true rfl, Nat.le_of_ble_eq_true rfl⟩)) rfl hl.1 rfl (Nat.le_of_ble_eq_true rfl) dX8_isDone_2 (fun v u1 H locs hp hF hS hz1 hk1 hd1 => ?_)
  obtain ⟨rfl, hw1⟩ := hp
  rw [hw1] at hF
  refine W.eq (g2 := F0 m 5 ls [va_rf (if wi n ((tJo T j).1) = true then (jf j) (ix n) else none)]) rfl ?_
  refine gx_astore_nq (i := 3) (lv' := [(3, va_rf (if wi n ((tJo T j).1) = true then (jf j) (ix n) else none)), (0, .ref (ad 0)), (1, .ref (ad (38 + j))), (2, .int n)]) hx hb dX8_isDone_5 rfl hl (by decide) (by simp [gx_cat, Value.category]) (fun ls hl => ?_)
  refine gx_aload_nq hx hb dX8_isDone_6 rfl (lv_at hl 0 rfl) ?_
  refine gx_ifnonnull (tgt := 12) hx hb dX8_isDone_7 (by decide) (fun hq2 => ?_) (fun q2 hq2 => ?_)
  · have hl : lv_has ls 7 [(3, .null), (0, .ref (ad 0)), (1, .ref (ad (38 + j))), (2, .int n)] := by rw [hq2] at hl; exact hl
    exfalso
    rw [if_pos hwn, hq5] at hq2
    cases hq2
  · have hl : lv_has ls 7 [(3, .ref q2), (0, .ref (ad 0)), (1, .ref (ad (38 + j))), (2, .int n)] := by rw [hq2] at hl; exact hl
    rw [if_pos hwn, hq5] at hq2
    have e5 := Option.some.inj hq2
    subst e5
    refine lv_aload_n hx hb dX8_isDone_12 rfl (lv_at hl 1 rfl) ?_
    refine lv_aload_n hx hb dX8_isDone_13 rfl (lv_at hl 0 rfl) ?_
    refine fw_get X gC_ok hF hc5 rfl 0 (by decide) wm_357 rfl dX8_isDone_14 ?_
    refine lv_aload_n hx hb dX8_isDone_17 rfl (lv_at hl 0 rfl) ?_
    refine fw_get X gC_ok hF hc5 rfl 1 (by decide) wm_359 rfl dX8_isDone_18 ?_
    refine lv_aload_n hx hb dX8_isDone_21 rfl (lv_at hl 0 rfl) ?_
    refine fw_get X gC_ok hF hc5 rfl 2 (by decide) wm_361 rfl dX8_isDone_22 ?_
    refine lv_aload_n hx hb dX8_isDone_25 rfl (lv_at hl 0 rfl) ?_
    refine fw_get X gC_ok hF hc5 rfl 3 (by decide) wm_363 rfl dX8_isDone_26 ?_
    refine fw_callV (As := [.int (((tJo T j).2 (ix n)).1), .int (((tJo T j).2 (ix n)).2.1), .int (((tJo T j).2 (ix n)).2.2.1), .int (((tJo T j).2 (ix n)).2.2.2.1)]) (rest := []) X bs_all nw_all mf_X8_attempt (c_X8_attempt l D cs _ _ ad T jf hW hI (((tJo T j).2 (ix n)).1) (((tJo T j).2 (ix n)).2.1) (((tJo T j).2 (ix n)).2.2.1) (((tJo T j).2 (ix n)).2.2.2.1) hok) wm_211 wm_213 wm_0 hF hS rfl (hW.2.1) rfl rfl ((⟨⟨Nat.le_of_ble_eq_true rfl, Nat.le_of_ble_eq_true rfl⟩, Nat.le_of_ble_eq_true rfl, Nat.le_of_ble_eq_true rfl⟩)) rfl hl.1 rfl (Nat.le_of_ble_eq_true rfl) dX8_isDone_29 (fun v u3 H locs hp hF hS hz1 hk1 hd1 => ?_)
    obtain ⟨q9, hq9, rfl, hW1⟩ := hp
    have hR8 : wi (spAt q9 (((tJo T j).2 (ix n)).1) (((tJo T j).2 (ix n)).2.1) (((tJo T j).2 (ix n)).2.2.1) (((tJo T j).2 (ix n)).2.2.2.1) T).1.1 8 = true := spDo_r hI (wi_lt (ok_a hok) (N := 4) (by decide))
    have hR := rsn_oc hR8
    generalize hr9 : spAt q9 (((tJo T j).2 (ix n)).1) (((tJo T j).2 (ix n)).2.1) (((tJo T j).2 (ix n)).2.2.1) (((tJo T j).2 (ix n)).2.2.2.1) T = r9 at hW1 hR8 hR ⊢
    have g9 := spGo_eq (n := n) (x := ((tJo T j).2 (ix n))) hr9
    refine W.eq (g2 := F0 m 32 ls [.long (oc r9.1)]) rfl ?_
    refine lv_lstore (lv' := [(4, .long (oc r9.1)), (3, .ref q5), (0, .ref (ad 0)), (1, .ref (ad (38 + j))), (2, .int n)]) hx hb dX8_isDone_32 hl (by decide) rfl (fun ls hl => ?_)
    refine lv_lload hx hb dX8_isDone_34 (lv_at hl 0 rfl) ?_
    refine fw_callS (As := [.long (oc r9.1)]) (rest := []) X bs_all nw_all mf_X8_reasonOf (c_X8_reasonOf l D cs _ _ (oc r9.1)) wm_342 wm_343 hF hS rfl ((⟨⟨Nat.le_of_ble_eq_true rfl, Nat.le_of_ble_eq_true rfl⟩, Nat.le_of_ble_eq_true rfl, Nat.le_of_ble_eq_true rfl⟩)) rfl hl.1 rfl (Nat.le_of_ble_eq_true rfl) dX8_isDone_36 (fun v u4 H locs hp hF hS hz1 hk1 hd1 => ?_)
    obtain ⟨rfl, hw1⟩ := hp
    rw [hw1] at hF
    refine W.eq (g2 := F0 m 39 ls [.int (rsn (oc r9.1))]) rfl ?_
    refine lv_istore (lv' := [(6, .int (rsn (oc r9.1))), (4, .long (oc r9.1)), (3, .ref q5), (0, .ref (ad 0)), (1, .ref (ad (38 + j))), (2, .int n)]) hx hb dX8_isDone_39 hl (by decide) rfl (fun ls hl => ?_)
    refine lv_iload hx hb dX8_isDone_41 (lv_at hl 0 rfl) ?_
    refine lv_if_eq (tgt := 58) hx hb dX8_isDone_43 (by decide) (fun c43_5 => ?_) (fun c43_5 => ?_)
    · refine lv_aload_n hx hb dX8_isDone_58 rfl (lv_at hl 3 rfl) ?_
      refine fw_get X gC_ok hF (hW1.2.1) rfl 7 (by decide) wm_183 rfl dX8_isDone_59 ?_
      refine lv_lload hx hb dX8_isDone_62 (lv_at hl 1 rfl) ?_
      refine fw_callV (As := [.long (oc r9.1)]) (rest := []) X bs_all nw_all mf_X4_addAnswer (c_X4_addAnswer l D cs _ _ (ad 8) ((tRe r9.2).1) ((tRe r9.2).2.1) ((tRe r9.2).2.2.1) ((tRe r9.2).2.2.2.1) ((tRe r9.2).2.2.2.2.1) ((tRe r9.2).2.2.2.2.2) (hW1.2.2.2.2.2.2.2.2.2.1) (oc r9.1)) wm_410 wm_411 wm_412 hF hS rfl (hW1.2.2.2.2.2.2.2.2.2.1) rfl rfl ((⟨⟨Nat.le_of_ble_eq_true rfl, Nat.le_of_ble_eq_true rfl⟩, Nat.le_of_ble_eq_true rfl, Nat.le_of_ble_eq_true rfl⟩)) rfl hl.1 rfl (Nat.le_of_ble_eq_true rfl) dX8_isDone_64 (fun v u6 H locs hp hF hS hz1 hk1 hd1 => ?_)
      obtain ⟨rfl, hw1⟩ := hp
      rw [hw1] at hF
      refine W.eq (g2 := F0 m 67 ls []) rfl ?_
      refine lv_iconst (v := 1) hx hb dX8_isDone_67 (by decide) ?_
      refine fw_zret X hF hS rfl ?_ (Nat.le_of_ble_eq_true rfl) (Nat.le_of_ble_eq_true rfl) dX8_isDone_68
      rw [hR] at c43_5
      rw [if_pos c43_5] at g9
      rw [show oc r9.1 = r9.1.2.toInt64 from if_pos c43_5]
      exact ⟨q9, hq9, by rw [g9]; rfl, by rw [g9]; exact hW1.re _⟩
    · refine lv_aload_n hx hb dX8_isDone_46 rfl (lv_at hl 3 rfl) ?_
      refine fw_get X gC_ok hF (hW1.2.1) rfl 7 (by decide) wm_183 rfl dX8_isDone_47 ?_
      refine lv_iload hx hb dX8_isDone_50 (lv_at hl 0 rfl) ?_
      refine lv_iload_n hx hb dX8_isDone_52 rfl (lv_at hl 5 rfl) ?_
      refine fw_callV (As := [.int (rsn (oc r9.1)), .int n]) (rest := []) X bs_all nw_all mf_X4_addFailure (c_X4_addFailure l D cs _ _ (ad 8) ((tRe r9.2).1) ((tRe r9.2).2.1) ((tRe r9.2).2.2.1) ((tRe r9.2).2.2.2.1) ((tRe r9.2).2.2.2.2.1) ((tRe r9.2).2.2.2.2.2) (hW1.2.2.2.2.2.2.2.2.2.1) (rsn (oc r9.1)) n) wm_406 wm_407 wm_408 hF hS rfl (hW1.2.2.2.2.2.2.2.2.2.1) rfl rfl ((⟨⟨Nat.le_of_ble_eq_true rfl, Nat.le_of_ble_eq_true rfl⟩, Nat.le_of_ble_eq_true rfl, Nat.le_of_ble_eq_true rfl⟩)) rfl hl.1 rfl (Nat.le_of_ble_eq_true rfl) dX8_isDone_53 (fun v u7 H locs hp hF hS hz1 hk1 hd1 => ?_)
      obtain ⟨rfl, hw1⟩ := hp
      rw [hw1] at hF
      refine W.eq (g2 := F0 m 56 ls []) rfl ?_
      refine lv_iconst (v := 0) hx hb dX8_isDone_56 (by decide) ?_
      refine fw_zret X hF hS rfl ?_ (Nat.le_of_ble_eq_true rfl) (Nat.le_of_ble_eq_true rfl) dX8_isDone_57
      rw [hR] at c43_5
      rw [hR]
      rw [if_neg c43_5] at g9
      exact ⟨q9, hq9, by rw [g9]; rfl, by rw [g9]; exact hW1.re _⟩
set_option maxHeartbeats 4000000 in
set_option maxRecDepth 100000 in
theorem c_X8_isDoneInStead (l : Launch) (D : va_G) (cs : Nat → ClassId) (w : fW) (sz : Nat) (ad : Nat → Nat) (T : Sg) (jf : Nat → Nat → Option Nat) (hW : SW cs ad T jf w) (hI : Inv T) (j : Nat) (hj : j < 4) (n : Int32) (hwn : wi n (tJo T j).1 = true) : gM l bs_B nw_B D cls10 (tyl cs) yX8_isDoneInStead cX8_isDoneInStead 4 (some .boolean) 6 143 1 3 w sz [.ref (ad 0), .ref (ad (38 + j)), .int n] (fun v w' => ∃ q, w q = none ∧ v = some (.int (bz (spIn q j ((tJo T j).2 (ix n)) T).1)) ∧ SW cs ad (spIn q j ((tJo T j).2 (ix n)) T).2 jf w') := by
  refine gM.of (by decide +kernel) (Nat.le_of_ble_eq_true rfl) (fun p e s m below meth c A ls X hsz hnm hF hS hl => ?_)
  have hx := X.1
  have hb := X.2.1
  have hl : lv_has ls 4 [(0, .ref (ad 0)), (1, .ref (ad (38 + j))), (2, .int n)] := hl
  have hlt : ix n < ix (tJo T j).1 := ix_lt hwn
  obtain ⟨q5, hq5, hc5⟩ := hW.2.2.2.2.2.2.2.2.2.2.2.2.2.2.2.2.2.2.2.2 j (ix n) hj hlt
  have hfr : w sz = none := hF.fresh (by omega)
  refine lv_aload_n hx hb dX8_isDoneInStead_0 rfl (lv_at hl 1 rfl) ?_
  refine lv_iload_n hx hb dX8_isDoneInStead_1 rfl (lv_at hl 2 rfl) ?_
  refine fw_callV (As := [.int n]) (rest := []) X bs_all nw_all mf_X2_stepAt (c_X2_stepAt l D cs _ _ (ad (38 + j)) (ad (42 + j)) ((tJo T j).1) (jf j) (hW.2.2.2.2.2.2.2.2.2.2.2.2.2.2.2.2.2.1 j hj) (hW.2.2.2.2.2.2.2.2.2.2.2.2.2.2.2.2.2.2.1 j hj) n (hI.2.2.2.2.1 j hj).2.1) wm_401 wm_402 wm_403 hF hS rfl (hW.2.2.2.2.2.2.2.2.2.2.2.2.2.2.2.2.2.1 j hj) rfl rfl ((⟨⟨Nat.le_of_ble_eq_true rfl, Nat.le_of_ble_eq_true rfl⟩, Nat.le_of_ble_eq_true rfl, Nat.le_of_ble_eq_true rfl⟩)) rfl hl.1 rfl (Nat.le_of_ble_eq_true rfl) dX8_isDoneInStead_2 (fun v u1 H locs hp hF hS hz1 hk1 hd1 => ?_)
  obtain ⟨rfl, hw1⟩ := hp
  rw [hw1] at hF
  refine W.eq (g2 := F0 m 5 ls [va_rf (if wi n ((tJo T j).1) = true then (jf j) (ix n) else none)]) rfl ?_
  refine gx_astore_nq (i := 3) (lv' := [(3, va_rf (if wi n ((tJo T j).1) = true then (jf j) (ix n) else none)), (0, .ref (ad 0)), (1, .ref (ad (38 + j))), (2, .int n)]) hx hb dX8_isDoneInStead_5 rfl hl (by decide) (by simp [gx_cat, Value.category]) (fun ls hl => ?_)
  refine gx_aload_nq hx hb dX8_isDoneInStead_6 rfl (lv_at hl 0 rfl) ?_
  refine gx_ifnull (tgt := 21) hx hb dX8_isDoneInStead_7 (by decide) (fun hq2 => ?_) (fun q2 hq2 => ?_)
  · have hl : lv_has ls 4 [(3, .null), (0, .ref (ad 0)), (1, .ref (ad (38 + j))), (2, .int n)] := by rw [hq2] at hl; exact hl
    exfalso
    rw [if_pos hwn, hq5] at hq2
    cases hq2
  · have hl : lv_has ls 4 [(3, .ref q2), (0, .ref (ad 0)), (1, .ref (ad (38 + j))), (2, .int n)] := by rw [hq2] at hl; exact hl
    rw [if_pos hwn, hq5] at hq2
    have e5 := Option.some.inj hq2
    subst e5
    refine lv_aload_n hx hb dX8_isDoneInStead_10 rfl (lv_at hl 2 rfl) ?_
    refine lv_aload_n hx hb dX8_isDoneInStead_11 rfl (lv_at hl 0 rfl) ?_
    refine fw_get X gC_ok hF hc5 rfl 4 (by decide) wm_365 rfl dX8_isDoneInStead_12 ?_
    refine fw_callV (As := [.int (((tJo T j).2 (ix n)).2.2.2.2)]) (rest := []) X bs_all nw_all mf_X2_stepAt (c_X2_stepAt l D cs _ _ (ad (38 + j)) (ad (42 + j)) ((tJo T j).1) (jf j) (hW.2.2.2.2.2.2.2.2.2.2.2.2.2.2.2.2.2.1 j hj) (hW.2.2.2.2.2.2.2.2.2.2.2.2.2.2.2.2.2.2.1 j hj) (((tJo T j).2 (ix n)).2.2.2.2) (hI.2.2.2.2.1 j hj).2.1) wm_401 wm_402 wm_403 hF hS rfl (hW.2.2.2.2.2.2.2.2.2.2.2.2.2.2.2.2.2.1 j hj) rfl rfl ((⟨⟨Nat.le_of_ble_eq_true rfl, Nat.le_of_ble_eq_true rfl⟩, Nat.le_of_ble_eq_true rfl, Nat.le_of_ble_eq_true rfl⟩)) rfl hl.1 rfl (Nat.le_of_ble_eq_true rfl) dX8_isDoneInStead_15 (fun v u3 H locs hp hF hS hz1 hk1 hd1 => ?_)
    obtain ⟨rfl, hw1⟩ := hp
    rw [hw1] at hF
    refine W.eq (g2 := F0 m 18 ls [va_rf (if wi (((tJo T j).2 (ix n)).2.2.2.2) ((tJo T j).1) = true then (jf j) (ix (((tJo T j).2 (ix n)).2.2.2.2)) else none)]) rfl ?_
    refine gx_ifnonnull (tgt := 23) hx hb dX8_isDoneInStead_18 (by decide) (fun hq4 => ?_) (fun q4 hq4 => ?_)
    · have z9 : wi ((tJo T j).2 (ix n)).2.2.2.2 (tJo T j).1 = false := by
        cases zz : wi ((tJo T j).2 (ix n)).2.2.2.2 (tJo T j).1 with
        | false => rfl
        | true =>
          exfalso
          obtain ⟨q6, hq6, -⟩ := hW.2.2.2.2.2.2.2.2.2.2.2.2.2.2.2.2.2.2.2.2 j (ix ((tJo T j).2 (ix n)).2.2.2.2) hj (ix_lt zz)
          rw [if_pos zz, hq6] at hq4
          cases hq4
      refine lv_iconst (v := 0) hx hb dX8_isDoneInStead_21 (by decide) ?_
      refine fw_zret X hF hS rfl ?_ (Nat.le_of_ble_eq_true rfl) (Nat.le_of_ble_eq_true rfl) dX8_isDoneInStead_22
      have e9 : spIn sz j ((tJo T j).2 (ix n)) T = (false, T) := by unfold spIn; rw [z9]; rfl
      exact ⟨sz, hfr, by rw [e9]; rfl, by rw [e9]; exact hW⟩
    · have z9 : wi ((tJo T j).2 (ix n)).2.2.2.2 (tJo T j).1 = true := by
        cases zz : wi ((tJo T j).2 (ix n)).2.2.2.2 (tJo T j).1 with
        | true => rfl
        | false => rw [zz] at hq4; cases hq4
      refine lv_aload_n hx hb dX8_isDoneInStead_23 rfl (lv_at hl 1 rfl) ?_
      refine fw_get X gC_ok hF (hW.2.1) rfl 7 (by decide) wm_183 rfl dX8_isDoneInStead_24 ?_
      refine lv_dup hx hb dX8_isDoneInStead_27 rfl ?_
      refine fw_get X gC_ok hF (hW.2.2.2.2.2.2.2.2.2.1) rfl 4 (by decide) wm_69 rfl dX8_isDoneInStead_28 ?_
      refine lv_iconst (v := 1) hx hb dX8_isDoneInStead_31 (by decide) ?_
      refine lv_iadd hx hb dX8_isDoneInStead_32 ?_
      refine fw_put X gC_ok hF hS (hW.2.2.2.2.2.2.2.2.2.1) rfl 4 (by decide) wm_69 rfl (tf := .int) (by decide +kernel) rfl rfl (Nat.le_of_ble_eq_true rfl) dX8_isDoneInStead_33 (fun H locs hF hS => ?_)
      have hF : fw_P D cls10 A (va_up w (ad 8) (some (.inr (4, [.int ((tRe T).1), .int ((tRe T).2.1), .int ((tRe T).2.2.1), .int ((tRe T).2.2.2.1), .int (((tRe T).2.2.2.2.1) + 1), .long ((tRe T).2.2.2.2.2)])))) H := hF
      refine lv_aload_n hx hb dX8_isDoneInStead_36 rfl (lv_at hl 1 rfl) ?_
      refine lv_aload_n hx hb dX8_isDoneInStead_37 rfl (lv_at hl 2 rfl) ?_
      refine lv_aload_n hx hb dX8_isDoneInStead_38 rfl (lv_at hl 0 rfl) ?_
      refine fw_get X gC_ok hF ((va_up_ne _ _ (hW.ne6 hc5 (by omega) (by omega))).trans hc5) rfl 4 (by decide) wm_365 rfl dX8_isDoneInStead_39 ?_
      have hW3 : SW cs ad (stI1 T) jf (va_up w (ad 8) (some (.inr (4, [.int ((tRe T).1), .int ((tRe T).2.1), .int ((tRe T).2.2.1), .int ((tRe T).2.2.2.1), .int (((tRe T).2.2.2.2.1) + 1), .long ((tRe T).2.2.2.2.2)])))) := hW.re _
      refine fw_callV (As := [.ref (ad (38 + j)), .int (((tJo T j).2 (ix n)).2.2.2.2)]) (rest := []) X bs_all nw_all mf_X8_isDone (c_X8_isDone l D cs _ _ ad (stI1 T) jf hW3 (show Inv (stI1 T) from hI) j hj (((tJo T j).2 (ix n)).2.2.2.2) z9) wm_397 wm_399 wm_4 hF hS rfl (hW3.2.1) rfl rfl ((⟨⟨Nat.le_of_ble_eq_true rfl, Nat.le_of_ble_eq_true rfl⟩, Nat.le_of_ble_eq_true rfl, Nat.le_of_ble_eq_true rfl⟩)) rfl hl.1 rfl (Nat.le_of_ble_eq_true rfl) dX8_isDoneInStead_42 (fun v u5 H locs hp hF hS hz1 hk1 hd1 => ?_)
      obtain ⟨q9, hq9, rfl, hW1⟩ := hp
      refine W.eq (g2 := F0 m 45 ls [.int (bz (spGo q9 ((tJo (stI1 T) j).2 (ix (((tJo T j).2 (ix n)).2.2.2.2))) (((tJo T j).2 (ix n)).2.2.2.2) (stI1 T)).1)]) rfl ?_
      refine fw_zret X hF hS (gx_nbz _) ?_ (Nat.le_of_ble_eq_true rfl) (Nat.le_of_ble_eq_true rfl) dX8_isDoneInStead_45
      have e9 : spIn q9 j ((tJo T j).2 (ix n)) T = spGo q9 ((tJo T j).2 (ix ((tJo T j).2 (ix n)).2.2.2.2)) ((tJo T j).2 (ix n)).2.2.2.2 (stI1 T) := by unfold spIn; rw [if_pos z9]
      exact ⟨q9, up_none hq9, by rw [e9]; rfl, by rw [e9]; exact hW1⟩
