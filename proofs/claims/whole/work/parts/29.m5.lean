theorem inn_sd (x : Int32) : inn x.toInt64 (-1) 15 = true ↔ (x = -1 ∨ wi x 16 = true) := by
  have h3 : (-1 : Int64).toInt = -1 := rfl
  have h4 : (15 : Int64).toInt = 15 := rfl
  have h5 : (16 : Int32).toInt = 16 := rfl
  rw [inn_iff, wi_iff, h3, h4, h5, Int32.toInt_toInt64, gx_i x (-1) (a := -1) rfl]
  omega
theorem MR.jo {sl : Nat → Nat} {T : Sg} {M : Nat → Nat → Int32} (h : MR sl T M) (hI : Inv T) {a : Nat} {n : Int32} {f : Nat → aSp} {g17 g18 : Nat → Int32} (e17 : g17 a = n) (o17 : ∀ i, i < 4 → i ≠ a → g17 i = M 17 i) (e18 : ∀ k, k < ix n → mSpR (f k) (va_up (va_up M 18 g18) 17 g17) (5 * (16 * a + k))) (o18 : ∀ i k, i < 4 → i ≠ a → k < 16 → ∀ r, r < 5 → g18 (5 * (16 * i + k) + r) = M 18 (5 * (16 * i + k) + r)) : MR sl (setJo T a (n, f)) (va_up (va_up M 18 g18) 17 g17) := by
  obtain ⟨h1, h2, h3, h4, h5, h6, h7, h8, h9⟩ := h
  refine ⟨h1, h2, h3, h4, h5, h6, h7, fun j hj => ?_, h9⟩
  rw [gJo]
  by_cases e : j = a
  · subst e; rw [show va_up (tJo T) j (n, f) j = (n, f) from va_up_self _ _ _]; exact ⟨e17, e18⟩
  · rw [show va_up (tJo T) a (n, f) j = tJo T j from va_up_ne _ _ e]
    refine ⟨(o17 j hj e).trans (h8 j hj).1, fun k hk => ?_⟩
    have hk16 : k < 16 := by have := ix_le (hI.2.2.2.2.1 j hj).1 (hI.2.2.2.2.1 j hj).2.1; omega
    obtain ⟨p0, p1, p2, p3, p4⟩ := (h8 j hj).2 k hk
    exact ⟨(o18 j k hj e hk16 0 (by omega)).trans p0, (o18 j k hj e hk16 1 (by omega)).trans p1, (o18 j k hj e hk16 2 (by omega)).trans p2, (o18 j k hj e hk16 3 (by omega)).trans p3, (o18 j k hj e hk16 4 (by omega)).trans p4⟩
def ups (f : Nat → Int32) (p : Nat) (k a b d e : Int32) : Nat → Int32 := upd (upd (upd (upd (upd f p k) (p + 1) a) (p + 2) b) (p + 3) d) (p + 4) e
theorem ups_o (f : Nat → Int32) (p : Nat) (k a b d e : Int32) {i : Nat} (h : i < p ∨ p + 4 < i) : ups f p k a b d e i = f i := by
  unfold ups
  rw [upd_n _ _ (by omega), upd_n _ _ (by omega), upd_n _ _ (by omega), upd_n _ _ (by omega), upd_n _ _ (by omega)]
theorem ups_r (f : Nat → Int32) (p : Nat) (k a b d e : Int32) : ups f p k a b d e p = k ∧ ups f p k a b d e (p + 1) = a ∧ ups f p k a b d e (p + 2) = b ∧ ups f p k a b d e (p + 3) = d ∧ ups f p k a b d e (p + 4) = e := by
  unfold ups
  refine ⟨?_, ?_, ?_, ?_, ?_⟩
  · rw [upd_n _ _ (by omega), upd_n _ _ (by omega), upd_n _ _ (by omega), upd_n _ _ (by omega), upd_s]
  · rw [upd_n _ _ (by omega), upd_n _ _ (by omega), upd_n _ _ (by omega), upd_s]
  · rw [upd_n _ _ (by omega), upd_n _ _ (by omega), upd_s]
  · rw [upd_n _ _ (by omega), upd_s]
  · rw [upd_s]
theorem MR.joS {sl : Nat → Nat} {T : Sg} {M : Nat → Nat → Int32} (h : MR sl T M) (hI : Inv T) {j : Nat} (hj : j < 4) (h16 : (tJo T j).1 < 16) (x : aSp) : MR sl (setJo T j ((tJo T j).1 + 1, va_up (tJo T j).2 (ix (tJo T j).1) x)) (va_up (va_up M 18 (ups (M 18) (5 * (16 * j + ix (tJo T j).1)) x.1 x.2.1 x.2.2.1 x.2.2.2.1 x.2.2.2.2)) 17 (upd (M 17) j (M 17 j + 1))) := by
  have h0 := (hI.2.2.2.2.1 j hj).1
  have hl : ix (tJo T j).1 < 16 := wi_lt (wi_t h0 h16) (N := 16) (by decide)
  refine h.jo hI ((upd_s _ _ _).trans (by rw [(h.2.2.2.2.2.2.2.1 j hj).1])) (fun i _ hne => upd_n _ _ hne) (fun k hk => ?_) (fun i k hi hne hk r hr => ups_o _ _ _ _ _ _ _ (by omega))
  rw [ix_s h0 h16] at hk
  by_cases e : k = ix (tJo T j).1
  · subst e
    rw [va_up_self]
    exact ups_r _ _ _ _ _ _ _
  · rw [va_up_ne _ _ e]
    obtain ⟨p0, p1, p2, p3, p4⟩ := (h.2.2.2.2.2.2.2.1 j hj).2 k (by omega)
    exact ⟨(ups_o _ _ _ _ _ _ _ (by omega)).trans p0, (ups_o _ _ _ _ _ _ _ (by omega)).trans p1, (ups_o _ _ _ _ _ _ _ (by omega)).trans p2, (ups_o _ _ _ _ _ _ _ (by omega)).trans p3, (ups_o _ _ _ _ _ _ _ (by omega)).trans p4⟩
theorem MR.joE {sl : Nat → Nat} {T : Sg} {M : Nat → Nat → Int32} (h : MR sl T M) (hI : Inv T) {j : Nat} : MR sl (setJo T j (0, (tJo T j).2)) (va_up M 17 (upd (M 17) j 0)) := by
  have := h.jo hI (a := j) (n := 0) (f := (tJo T j).2) (g17 := upd (M 17) j 0) (g18 := M 18) (upd_s _ _ _) (fun i _ hne => upd_n _ _ hne) (fun k hk => absurd hk (Nat.not_lt_zero _)) (fun i k hi hne hk r hr => rfl)
  rw [va_id] at this
  exact this
/-- the reference holds the shop's state T -/
def Sm (cs : Nat → ClassId) (am : Nat → Nat) (T : Sg) (w : fW) : Prop := ∃ M sl wy an, MWd cs am (M, tRe T, wy, an) w ∧ MR sl T M
set_option maxHeartbeats 4000000 in
set_option maxRecDepth 100000 in
theorem c_X9_act (l : Launch) (D : va_G) (cs : Nat → ClassId) (w : fW) (sz : Nat) (am : Nat → Nat) (M : Nat → Nat → Int32) (R : aRe) (wy an : Int32) (hM : MWd cs am (M, R, wy, an) w) (sl : Nat → Nat) (T : Sg) (hR : MR sl T M) (hI : Inv T) (q : Nat) (hq : tWh T q = none) (k a b d : Int32) : gM l bs_B nw_B D cls10 (tyl cs) yX9_act cX9_act 5 (some .long) 4 95 0 0 w sz [.ref (am 28), .int k, .int a, .int b, .int d] (fun v w' => (okS k a b d = true ∧ v = some (.long (oc (spAt q k a b d T).1)) ∧ ∃ M' sl' wy' an', MWd cs am (M', R, wy', an') w' ∧ MR sl' (spAt q k a b d T).2 M') ∨ (okS k a b d = false ∧ v = some (.long (-9223372036854775808)) ∧ MWd cs am (M, R, wy, an) w')) := by
  refine gM.of (by decide +kernel) (Nat.le_of_ble_eq_true rfl) (fun p e s m below meth c A ls X hsz hnm hF hS hl => ?_)
  have hx := X.1
  have hb := X.2.1
  have hl : lv_has ls 5 [(0, .ref (am 28)), (1, .int k), (2, .int a), (3, .int b), (4, .int d)] := hl
  refine lv_iload_n hx hb dX9_act_0 rfl (lv_at hl 1 rfl) ?_
  refine lv_iload_n hx hb dX9_act_1 rfl (lv_at hl 2 rfl) ?_
  refine lv_iload_n hx hb dX9_act_2 rfl (lv_at hl 3 rfl) ?_
  refine lv_iload hx hb dX9_act_3 (lv_at hl 4 rfl) ?_
  refine fw_callS (As := [.int k, .int a, .int b, .int d]) (rest := []) X bs_all nw_all mf_X9_isStep (c_X9_isStep l D cs _ _ k a b d) wm_569 wm_570 hF hS rfl ((⟨⟨Nat.le_of_ble_eq_true rfl, Nat.le_of_ble_eq_true rfl⟩, Nat.le_of_ble_eq_true rfl, Nat.le_of_ble_eq_true rfl⟩)) rfl hl.1 rfl (Nat.le_of_ble_eq_true rfl) dX9_act_5 (fun v u1 H locs hp hF hS hz1 hk1 hd1 => ?_)
  obtain ⟨rfl, hw1⟩ := hp
  rw [hw1] at hF
  refine W.eq (g2 := F0 m 8 ls [.int (bz (okS k a b d))]) rfl ?_
  refine gx_ifne (tgt := 15) hx hb dX9_act_8 (by decide) (fun c8_2 => ?_) (fun c8_2 => ?_)
  · obtain ⟨n, hn, ea⟩ := vp_in_of (wi_in (ok_a c8_2) (N := 4) (by decide)) (by decide)
    subst ea
    refine lv_aload_n hx hb dX9_act_15 rfl (lv_at hl 0 rfl) ?_
    refine lv_iload_n hx hb dX9_act_16 rfl (lv_at hl 1 rfl) ?_
    refine lv_iload_n hx hb dX9_act_17 rfl (lv_at hl 2 rfl) ?_
    refine lv_iload_n hx hb dX9_act_18 rfl (lv_at hl 3 rfl) ?_
    refine lv_iload hx hb dX9_act_19 (lv_at hl 4 rfl) ?_
    refine fw_callV (As := [.int k, .int (nI n), .int b, .int d]) (rest := []) X bs_all nw_all mf_X9_does (c_X9_does l D cs _ _ am M R wy an hM sl T hR hI q hq k n b d hn c8_2) wm_578 wm_580 wm_7 hF hS rfl hM.2.1 rfl rfl ((⟨⟨Nat.le_of_ble_eq_true rfl, Nat.le_of_ble_eq_true rfl⟩, Nat.le_of_ble_eq_true rfl, Nat.le_of_ble_eq_true rfl⟩)) rfl hl.1 rfl (Nat.le_of_ble_eq_true rfl) dX9_act_21 (fun v u3 H locs hp hF hS hz1 hk1 hd1 => ?_)
    obtain ⟨hv1, M2, sl2, hM, hR2⟩ := hp
    subst hv1
    generalize hr9 : spAt q k (nI n) b d T = r9 at hM hR2
    refine W.eq (g2 := F0 m 24 ls []) rfl ?_
    refine lv_aload_n hx hb dX9_act_24 rfl (lv_at hl 0 rfl) ?_
    refine fw_get (v := .int r9.1.1) X gC_ok hF hM.2.1 rfl 26 (by decide) wm_505 rfl dX9_act_25 ?_
    refine lv_if_eq (tgt := 43) hx hb dX9_act_28 (by decide) (fun c28_4 => ?_) (fun c28_4 => ?_)
    · refine lv_aload_n hx hb dX9_act_43 rfl (lv_at hl 0 rfl) ?_
      refine fw_get (v := .int r9.1.2) X gC_ok hF hM.2.1 rfl 27 (by decide) wm_506 rfl dX9_act_44 ?_
      refine lv_i2l hx hb dX9_act_47 rfl ?_
      refine fw_lret X hF hS ?_ (Nat.le_of_ble_eq_true rfl) (Nat.le_of_ble_eq_true rfl) dX9_act_48
      refine Or.inl ⟨c8_2, ?_, M2, sl2, _, _, hM, ?_⟩
      · rw [show oc r9.1 = _ from if_pos c28_4]
      · exact hR2
    · refine lv_ldc2 (v := (-9223372036854775808)) hx hb X.2.2.2.1 (X.2.2.2.2.1 _ wm_577) dX9_act_31 ?_
      refine lv_aload_n hx hb dX9_act_34 rfl (lv_at hl 0 rfl) ?_
      refine fw_get (v := .int r9.1.1) X gC_ok hF hM.2.1 rfl 26 (by decide) wm_505 rfl dX9_act_35 ?_
      refine lv_i2l hx hb dX9_act_38 rfl ?_
      refine lv_ladd hx hb dX9_act_39 ?_
      refine lv_goto (tgt := 48) hx hb dX9_act_40 (by decide) ?_
      refine fw_lret X hF hS ?_ (Nat.le_of_ble_eq_true rfl) (Nat.le_of_ble_eq_true rfl) dX9_act_48
      refine Or.inl ⟨c8_2, ?_, M2, sl2, _, _, hM, ?_⟩
      · rw [show oc r9.1 = _ from if_neg c28_4]; rfl
      · exact hR2
  · refine lv_ldc2 (v := (-9223372036854775808)) hx hb X.2.2.2.1 (X.2.2.2.2.1 _ wm_577) dX9_act_11 ?_
    refine fw_lret X hF hS ?_ (Nat.le_of_ble_eq_true rfl) (Nat.le_of_ble_eq_true rfl) dX9_act_14
    exact Or.inr ⟨c8_2, rfl, hM⟩
set_option maxHeartbeats 4000000 in
set_option maxRecDepth 100000 in
theorem c_X9_goes (l : Launch) (D : va_G) (cs : Nat → ClassId) (w : fW) (sz : Nat) (am : Nat → Nat) (M : Nat → Nat → Int32) (R : aRe) (wy an : Int32) (hM : MWd cs am (M, R, wy, an) w) (sl : Nat → Nat) (T : Sg) (hR : MR sl T M) (hRe : R = tRe T) (hI : Inv T) (q : Nat) (hq : tWh T q = none) (j k : Nat) (hj : j < 4) (hk : k < ix (tJo T j).1) : gM l bs_B nw_B D cls10 (tyl cs) yX9_goes cX9_goes 4 none 4 95 0 0 w sz [.ref (am 28), .int (nI j), .int (nI k)] (fun v w' => v = none ∧ ∃ M' sl' wy' an', MWd cs am (M', tRe (spGo q ((tJo T j).2 k) (nI k) T).2, wy', an') w' ∧ MR sl' (spGo q ((tJo T j).2 k) (nI k) T).2 M' ∧ (wy' = 0 ↔ (spGo q ((tJo T j).2 k) (nI k) T).1 = true)) := by
  refine gM.of (by decide +kernel) (Nat.le_of_ble_eq_true rfl) (fun p e s m below meth c A ls X hsz hnm hF hS hl => ?_)
  have hx := X.1
  have hb := X.2.1
  have hl : lv_has ls 4 [(0, .ref (am 28)), (1, .int (nI j)), (2, .int (nI k))] := hl
  have hk16 : k < 16 := by have := ix_le (hI.2.2.2.2.1 j hj).1 (hI.2.2.2.2.1 j hj).2.1; omega
  obtain ⟨pp0, pp1, pp2, pp3, pp4⟩ := (hR.2.2.2.2.2.2.2.1 j hj).2 k hk
  have hok := ((hI.2.2.2.2.1 j hj).2.2 k hk).1
  obtain ⟨n, hn, en⟩ := vp_in_of (wi_in (ok_a hok) (N := 4) (by decide)) (by decide)
  refine lv_iconst (v := 5) hx hb dX9_goes_0 (by decide) ?_
  refine lv_bipush (v := 16) hx hb dX9_goes_1 (by decide) ?_
  refine lv_iload_n hx hb dX9_goes_3 rfl (lv_at hl 1 rfl) ?_
  refine lv_imul hx hb dX9_goes_4 ?_
  refine lv_iload_n hx hb dX9_goes_5 rfl (lv_at hl 2 rfl) ?_
  refine lv_iadd hx hb dX9_goes_6 ?_
  refine lv_imul hx hb dX9_goes_7 ?_
  refine lv_istore_n (lv' := [(3, .int (5 * ((16 * (nI j)) + (nI k)))), (0, .ref (am 28)), (1, .int (nI j)), (2, .int (nI k))]) hx hb dX9_goes_8 rfl hl (by decide) rfl (fun ls hl => ?_)
  refine lv_aload_n hx hb dX9_goes_9 rfl (lv_at hl 1 rfl) ?_
  refine lv_aload_n hx hb dX9_goes_10 rfl (lv_at hl 1 rfl) ?_
  refine fw_get (v := .ref (am 18)) X gC_ok hF hM.2.1 rfl 18 (by decide) wm_497 rfl dX9_goes_11 ?_
  refine lv_iload_n hx hb dX9_goes_14 rfl (lv_at hl 0 rfl) ?_
  refine fw_iald X hF (hM.2.2 18 (Or.inl (by decide))) 0 rfl (show vp_in (5 * ((16 * (nI j)) + (nI k))) 320 by rw [(show 5 * ((16 * (nI j)) + (nI k)) = nI (5 * (16 * j + k)) by simp only [and_sb, and_sb1, nl1, nl2, nl3, nl4, nl5, nl16, nl20, nl400, pk_mul, nI_add])]; exact vp_in_nI (by omega) (by decide)) (v := (M 18) (5 * (16 * j + k))) (by rw [(show 5 * ((16 * (nI j)) + (nI k)) = nI (5 * (16 * j + k)) by simp only [and_sb, and_sb1, nl1, nl2, nl3, nl4, nl5, nl16, nl20, nl400, pk_mul, nI_add]), nI_clamp (by omega)] <;> rfl) dX9_goes_15 ?_
  refine lv_aload_n hx hb dX9_goes_16 rfl (lv_at hl 1 rfl) ?_
  refine fw_get (v := .ref (am 18)) X gC_ok hF hM.2.1 rfl 18 (by decide) wm_497 rfl dX9_goes_17 ?_
  refine lv_iload_n hx hb dX9_goes_20 rfl (lv_at hl 0 rfl) ?_
  refine lv_iconst (v := 1) hx hb dX9_goes_21 (by decide) ?_
  refine lv_iadd hx hb dX9_goes_22 ?_
  refine fw_iald X hF (hM.2.2 18 (Or.inl (by decide))) 0 rfl (show vp_in ((5 * ((16 * (nI j)) + (nI k))) + 1) 320 by rw [(show (5 * ((16 * (nI j)) + (nI k))) + 1 = nI (5 * (16 * j + k) + 1) by simp only [and_sb, and_sb1, nl1, nl2, nl3, nl4, nl5, nl16, nl20, nl400, pk_mul, nI_add])]; exact vp_in_nI (by omega) (by decide)) (v := (M 18) (5 * (16 * j + k) + 1)) (by rw [(show (5 * ((16 * (nI j)) + (nI k))) + 1 = nI (5 * (16 * j + k) + 1) by simp only [and_sb, and_sb1, nl1, nl2, nl3, nl4, nl5, nl16, nl20, nl400, pk_mul, nI_add]), nI_clamp (by omega)] <;> rfl) dX9_goes_23 ?_
  refine lv_aload_n hx hb dX9_goes_24 rfl (lv_at hl 1 rfl) ?_
  refine fw_get (v := .ref (am 18)) X gC_ok hF hM.2.1 rfl 18 (by decide) wm_497 rfl dX9_goes_25 ?_
  refine lv_iload_n hx hb dX9_goes_28 rfl (lv_at hl 0 rfl) ?_
  refine lv_iconst (v := 2) hx hb dX9_goes_29 (by decide) ?_
  refine lv_iadd hx hb dX9_goes_30 ?_
  refine fw_iald X hF (hM.2.2 18 (Or.inl (by decide))) 0 rfl (show vp_in ((5 * ((16 * (nI j)) + (nI k))) + 2) 320 by rw [(show (5 * ((16 * (nI j)) + (nI k))) + 2 = nI (5 * (16 * j + k) + 2) by simp only [and_sb, and_sb1, nl1, nl2, nl3, nl4, nl5, nl16, nl20, nl400, pk_mul, nI_add])]; exact vp_in_nI (by omega) (by decide)) (v := (M 18) (5 * (16 * j + k) + 2)) (by rw [(show (5 * ((16 * (nI j)) + (nI k))) + 2 = nI (5 * (16 * j + k) + 2) by simp only [and_sb, and_sb1, nl1, nl2, nl3, nl4, nl5, nl16, nl20, nl400, pk_mul, nI_add]), nI_clamp (by omega)] <;> rfl) dX9_goes_31 ?_
  refine lv_aload_n hx hb dX9_goes_32 rfl (lv_at hl 1 rfl) ?_
  refine fw_get (v := .ref (am 18)) X gC_ok hF hM.2.1 rfl 18 (by decide) wm_497 rfl dX9_goes_33 ?_
  refine lv_iload_n hx hb dX9_goes_36 rfl (lv_at hl 0 rfl) ?_
  refine lv_iconst (v := 3) hx hb dX9_goes_37 (by decide) ?_
  refine lv_iadd hx hb dX9_goes_38 ?_
  refine fw_iald X hF (hM.2.2 18 (Or.inl (by decide))) 0 rfl (show vp_in ((5 * ((16 * (nI j)) + (nI k))) + 3) 320 by rw [(show (5 * ((16 * (nI j)) + (nI k))) + 3 = nI (5 * (16 * j + k) + 3) by simp only [and_sb, and_sb1, nl1, nl2, nl3, nl4, nl5, nl16, nl20, nl400, pk_mul, nI_add])]; exact vp_in_nI (by omega) (by decide)) (v := (M 18) (5 * (16 * j + k) + 3)) (by rw [(show (5 * ((16 * (nI j)) + (nI k))) + 3 = nI (5 * (16 * j + k) + 3) by simp only [and_sb, and_sb1, nl1, nl2, nl3, nl4, nl5, nl16, nl20, nl400, pk_mul, nI_add]), nI_clamp (by omega)] <;> rfl) dX9_goes_39 ?_
  rw [pp0, pp1, pp2, pp3, en]
  refine W.eq (g2 := F0 m 40 ls [.int (((tJo T j).2 k).2.2.2.1), .int (((tJo T j).2 k).2.2.1), .int (nI n), .int (((tJo T j).2 k).1), .ref (am 28)]) rfl ?_
  refine fw_callV (As := [.int (((tJo T j).2 k).1), .int (nI n), .int (((tJo T j).2 k).2.2.1), .int (((tJo T j).2 k).2.2.2.1)]) (rest := []) X bs_all nw_all mf_X9_does (c_X9_does l D cs _ _ am M R wy an hM sl T hR hI q hq (((tJo T j).2 k).1) n (((tJo T j).2 k).2.2.1) (((tJo T j).2 k).2.2.2.1) hn (by rw [← en]; exact hok)) wm_578 wm_580 wm_7 hF hS rfl hM.2.1 rfl rfl ((⟨⟨Nat.le_of_ble_eq_true rfl, Nat.le_of_ble_eq_true rfl⟩, Nat.le_of_ble_eq_true rfl, Nat.le_of_ble_eq_true rfl⟩)) rfl hl.1 rfl (Nat.le_of_ble_eq_true rfl) dX9_goes_40 (fun v u1 H locs hp hF hS hz1 hk1 hd1 => ?_)
  obtain ⟨hv1, M2, sl2, hM, hR2⟩ := hp
  subst hv1
  generalize hr9 : spAt q (((tJo T j).2 k).1) (nI n) (((tJo T j).2 k).2.2.1) (((tJo T j).2 k).2.2.2.1) T = r9 at hM hR2
  refine W.eq (g2 := F0 m 43 ls []) rfl ?_
  refine lv_aload_n hx hb dX9_goes_43 rfl (lv_at hl 1 rfl) ?_
  refine fw_get (v := .int r9.1.1) X gC_ok hF hM.2.1 rfl 26 (by decide) wm_505 rfl dX9_goes_44 ?_
  refine lv_if_ne (tgt := 77) hx hb dX9_goes_47 (by decide) (fun c47_2 => ?_) (fun c47_2 => ?_)
  · refine lv_aload_n hx hb dX9_goes_77 rfl (lv_at hl 1 rfl) ?_
    refine lv_dup hx hb dX9_goes_78 rfl ?_
    refine fw_get (v := .int R.2.1) X gC_ok hF hM.2.1 rfl 20 (by decide) wm_499 rfl dX9_goes_79 ?_
    refine lv_iconst (v := 1) hx hb dX9_goes_82 (by decide) ?_
    refine lv_iadd hx hb dX9_goes_83 ?_
    refine fw_put X gC_ok hF hS hM.2.1 rfl 20 (by decide) wm_499 rfl (tf := .int) (by decide +kernel) rfl rfl (Nat.le_of_ble_eq_true rfl) dX9_goes_84 (fun H locs hF hS => ?_)
    obtain ⟨u3, hu3⟩ : ∃ y : fW, y = va_up u1 (am 28) (some (mObj am (M2, (R.1, R.2.1 + 1, R.2.2.1, R.2.2.2.1, R.2.2.2.2.1, R.2.2.2.2.2), r9.1.1, r9.1.2))) := ⟨_, rfl⟩
    have hM := hM.obj (R.1, R.2.1 + 1, R.2.2.1, R.2.2.2.1, R.2.2.2.2.1, R.2.2.2.2.2) r9.1.1 r9.1.2
    have hF : fw_P D cls10 A u3 H := by rw [hu3]; exact hF
    have hM : MWd cs am (M2, (R.1, R.2.1 + 1, R.2.2.1, R.2.2.2.1, R.2.2.2.2.1, R.2.2.2.2.2), r9.1.1, r9.1.2) u3 := by rw [hu3]; exact hM
    refine lv_aload_n hx hb dX9_goes_87 rfl (lv_at hl 1 rfl) ?_
    refine lv_aload_n hx hb dX9_goes_88 rfl (lv_at hl 1 rfl) ?_
    refine fw_get (v := .int r9.1.1) X gC_ok hF hM.2.1 rfl 26 (by decide) wm_505 rfl dX9_goes_89 ?_
    refine fw_put X gC_ok hF hS hM.2.1 rfl 21 (by decide) wm_500 rfl (tf := .int) (by decide +kernel) rfl rfl (Nat.le_of_ble_eq_true rfl) dX9_goes_92 (fun H locs hF hS => ?_)
    obtain ⟨u4, hu4⟩ : ∃ y : fW, y = va_up u3 (am 28) (some (mObj am (M2, (R.1, R.2.1 + 1, r9.1.1, R.2.2.2.1, R.2.2.2.2.1, R.2.2.2.2.2), r9.1.1, r9.1.2))) := ⟨_, rfl⟩
    have hM := hM.obj (R.1, R.2.1 + 1, r9.1.1, R.2.2.2.1, R.2.2.2.2.1, R.2.2.2.2.2) r9.1.1 r9.1.2
    have hF : fw_P D cls10 A u4 H := by rw [hu4]; exact hF
    have hM : MWd cs am (M2, (R.1, R.2.1 + 1, r9.1.1, R.2.2.2.1, R.2.2.2.2.1, R.2.2.2.2.2), r9.1.1, r9.1.2) u4 := by rw [hu4]; exact hM
    refine lv_aload_n hx hb dX9_goes_95 rfl (lv_at hl 1 rfl) ?_
    refine lv_iload_n hx hb dX9_goes_96 rfl (lv_at hl 3 rfl) ?_
    refine fw_put X gC_ok hF hS hM.2.1 rfl 22 (by decide) wm_501 rfl (tf := .int) (by decide +kernel) rfl rfl (Nat.le_of_ble_eq_true rfl) dX9_goes_97 (fun H locs hF hS => ?_)
    obtain ⟨u5, hu5⟩ : ∃ y : fW, y = va_up u4 (am 28) (some (mObj am (M2, (R.1, R.2.1 + 1, r9.1.1, nI k, R.2.2.2.2.1, R.2.2.2.2.2), r9.1.1, r9.1.2))) := ⟨_, rfl⟩
    have hM := hM.obj (R.1, R.2.1 + 1, r9.1.1, nI k, R.2.2.2.2.1, R.2.2.2.2.2) r9.1.1 r9.1.2
    have hF : fw_P D cls10 A u5 H := by rw [hu5]; exact hF
    have hM : MWd cs am (M2, (R.1, R.2.1 + 1, r9.1.1, nI k, R.2.2.2.2.1, R.2.2.2.2.2), r9.1.1, r9.1.2) u5 := by rw [hu5]; exact hM
    refine fw_vret X hF hS ?_ (Nat.le_of_ble_eq_true rfl) (Nat.le_of_ble_eq_true rfl) dX9_goes_100
    have g9 := spGo_eq (r := r9) (x := ((tJo T j).2 k)) (n := nI k) (by rw [en]; exact hr9)
    have hRr : R = tRe r9.2 := by rw [← hr9, at_re]; exact hRe
    subst hRr
    rw [if_neg c47_2] at g9
    exact ⟨rfl, M2, sl2, _, _, by rw [g9]; exact hM, by rw [g9]; exact hR2, ⟨fun z => absurd z c47_2, fun z => by rw [g9] at z; cases z⟩⟩
  · refine lv_aload_n hx hb dX9_goes_50 rfl (lv_at hl 1 rfl) ?_
    refine lv_dup hx hb dX9_goes_51 rfl ?_
    refine fw_get (v := .int R.1) X gC_ok hF hM.2.1 rfl 19 (by decide) wm_498 rfl dX9_goes_52 ?_
    refine lv_iconst (v := 1) hx hb dX9_goes_55 (by decide) ?_
    refine lv_iadd hx hb dX9_goes_56 ?_
    refine fw_put X gC_ok hF hS hM.2.1 rfl 19 (by decide) wm_498 rfl (tf := .int) (by decide +kernel) rfl rfl (Nat.le_of_ble_eq_true rfl) dX9_goes_57 (fun H locs hF hS => ?_)
    obtain ⟨u6, hu6⟩ : ∃ y : fW, y = va_up u1 (am 28) (some (mObj am (M2, (R.1 + 1, R.2.1, R.2.2.1, R.2.2.2.1, R.2.2.2.2.1, R.2.2.2.2.2), r9.1.1, r9.1.2))) := ⟨_, rfl⟩
    have hM := hM.obj (R.1 + 1, R.2.1, R.2.2.1, R.2.2.2.1, R.2.2.2.2.1, R.2.2.2.2.2) r9.1.1 r9.1.2
    have hF : fw_P D cls10 A u6 H := by rw [hu6]; exact hF
    have hM : MWd cs am (M2, (R.1 + 1, R.2.1, R.2.2.1, R.2.2.2.1, R.2.2.2.2.1, R.2.2.2.2.2), r9.1.1, r9.1.2) u6 := by rw [hu6]; exact hM
    refine lv_aload_n hx hb dX9_goes_60 rfl (lv_at hl 1 rfl) ?_
    refine lv_dup hx hb dX9_goes_61 rfl ?_
    refine fw_get (v := .long R.2.2.2.2.2) X gC_ok hF hM.2.1 rfl 24 (by decide) wm_503 rfl dX9_goes_62 ?_
    refine lv_aload_n hx hb dX9_goes_65 rfl (lv_at hl 1 rfl) ?_
    refine fw_get (v := .int r9.1.2) X gC_ok hF hM.2.1 rfl 27 (by decide) wm_506 rfl dX9_goes_66 ?_
    refine lv_i2l hx hb dX9_goes_69 rfl ?_
    refine lv_ladd hx hb dX9_goes_70 ?_
    refine fw_put X gC_ok hF hS hM.2.1 rfl 24 (by decide) wm_503 rfl (tf := .long) (by decide +kernel) rfl rfl (Nat.le_of_ble_eq_true rfl) dX9_goes_71 (fun H locs hF hS => ?_)
    obtain ⟨u7, hu7⟩ : ∃ y : fW, y = va_up u6 (am 28) (some (mObj am (M2, (R.1 + 1, R.2.1, R.2.2.1, R.2.2.2.1, R.2.2.2.2.1, R.2.2.2.2.2 + r9.1.2.toInt64), r9.1.1, r9.1.2))) := ⟨_, rfl⟩
    have hM := hM.obj (R.1 + 1, R.2.1, R.2.2.1, R.2.2.2.1, R.2.2.2.2.1, R.2.2.2.2.2 + r9.1.2.toInt64) r9.1.1 r9.1.2
    have hF : fw_P D cls10 A u7 H := by rw [hu7]; exact hF
    have hM : MWd cs am (M2, (R.1 + 1, R.2.1, R.2.2.1, R.2.2.2.1, R.2.2.2.2.1, R.2.2.2.2.2 + r9.1.2.toInt64), r9.1.1, r9.1.2) u7 := by rw [hu7]; exact hM
    refine lv_goto (tgt := 100) hx hb dX9_goes_74 (by decide) ?_
    refine fw_vret X hF hS ?_ (Nat.le_of_ble_eq_true rfl) (Nat.le_of_ble_eq_true rfl) dX9_goes_100
    have g9 := spGo_eq (r := r9) (x := ((tJo T j).2 k)) (n := nI k) (by rw [en]; exact hr9)
    have hRr : R = tRe r9.2 := by rw [← hr9, at_re]; exact hRe
    subst hRr
    rw [if_pos c47_2] at g9
    exact ⟨rfl, M2, sl2, _, _, by rw [g9]; exact hM, by rw [g9]; exact hR2, ⟨fun _ => by rw [g9], fun _ => c47_2⟩⟩
set_option maxHeartbeats 4000000 in
set_option maxRecDepth 100000 in
theorem c_X9_clear (l : Launch) (D : va_G) (cs : Nat → ClassId) (w : fW) (sz : Nat) (am : Nat → Nat) (M : Nat → Nat → Int32) (R : aRe) (wy an : Int32) (hM : MWd cs am (M, R, wy, an) w) (sl : Nat → Nat) (T : Sg) (hR : MR sl T M) (hI : Inv T) (j : Int32) : gM l bs_B nw_B D cls10 (tyl cs) yX9_clear cX9_clear 3 (some .int) 1 25 0 0 w sz [.ref (am 28), .int j] (fun v w' => (wi j 4 = true ∧ v = some (.int (tJo T (ix j)).1) ∧ ∃ M' sl', MWd cs am (M', R, wy, an) w' ∧ MR sl' (setJo T (ix j) (0, (tJo T (ix j)).2)) M') ∨ (wi j 4 = false ∧ v = some (.int (-2)) ∧ MWd cs am (M, R, wy, an) w')) := by
  refine gM.of (by decide +kernel) (Nat.le_of_ble_eq_true rfl) (fun p e s m below meth c A ls X hsz hnm hF hS hl => ?_)
  have hx := X.1
  have hb := X.2.1
  have hl : lv_has ls 3 [(0, .ref (am 28)), (1, .int j)] := hl
  refine lv_iload_n hx hb dX9_clear_0 rfl (lv_at hl 1 rfl) ?_
  refine lv_i2l hx hb dX9_clear_1 rfl ?_
  refine lv_lconst (v := 0) hx hb dX9_clear_2 (by decide) ?_
  refine lv_ldc2 (v := 3) hx hb X.2.2.2.1 (X.2.2.2.2.1 _ wm_576) dX9_clear_3 ?_
  refine fw_callS (As := [.long j.toInt64, .long 0, .long 3]) (rest := []) X bs_all nw_all mf_X9_in (c_X9_in l D cs _ _ j.toInt64 0 3) wm_573 wm_574 hF hS rfl ((⟨⟨Nat.le_of_ble_eq_true rfl, Nat.le_of_ble_eq_true rfl⟩, Nat.le_of_ble_eq_true rfl, Nat.le_of_ble_eq_true rfl⟩)) rfl hl.1 rfl (Nat.le_of_ble_eq_true rfl) dX9_clear_6 (fun v u1 H locs hp hF hS hz1 hk1 hd1 => ?_)
  obtain ⟨rfl, hw1⟩ := hp
  rw [hw1] at hF
  refine W.eq (g2 := F0 m 9 ls [.int (bz (inn j.toInt64 0 3))]) rfl ?_
  refine gx_ifne (tgt := 15) hx hb dX9_clear_9 (by decide) (fun c9_2 => ?_) (fun c9_2 => ?_)
  · rw [inn_wi (n := 4) rfl] at c9_2
    obtain ⟨n, hn, ej⟩ := vp_in_of (wi_in c9_2 (N := 4) (by decide)) (by decide)
    subst ej
    have hin : ix (nI n) = n := nI_clamp (by omega)
    refine lv_aload_n hx hb dX9_clear_15 rfl (lv_at hl 0 rfl) ?_
    refine fw_get (v := .ref (am 17)) X gC_ok hF hM.2.1 rfl 17 (by decide) wm_496 rfl dX9_clear_16 ?_
    refine lv_iload_n hx hb dX9_clear_19 rfl (lv_at hl 1 rfl) ?_
    refine fw_iald X hF (hM.2.2 17 (Or.inl (by decide))) 0 rfl (show vp_in (nI n) 4 from vp_in_nI (by omega) (by decide)) (v := (M 17) n) (by rw [nI_clamp (by omega)] <;> rfl) dX9_clear_20 ?_
    refine lv_istore_n (lv' := [(2, .int ((M 17) n)), (0, .ref (am 28)), (1, .int (nI n))]) hx hb dX9_clear_21 rfl hl (by decide) rfl (fun ls hl => ?_)
    refine lv_aload_n hx hb dX9_clear_22 rfl (lv_at hl 1 rfl) ?_
    refine fw_get (v := .ref (am 17)) X gC_ok hF hM.2.1 rfl 17 (by decide) wm_496 rfl dX9_clear_23 ?_
    refine lv_iload_n hx hb dX9_clear_26 rfl (lv_at hl 2 rfl) ?_
    refine lv_iconst (v := 0) hx hb dX9_clear_27 (by decide) ?_
    refine fw_iast X hF hS (hM.2.2 17 (Or.inl (by decide))) 0 rfl (show vp_in (nI n) 4 from vp_in_nI (by omega) (by decide)) dX9_clear_28 (fun H locs hF hS => ?_)
    rw [show (nI n).toNatClampNeg = n from nI_clamp (by omega)] at hF
    obtain ⟨u3, hu3⟩ : ∃ y : fW, y = va_up w (am 17) (some (.inl (cs 0, 4, .inl (upd (M 17) n 0)))) := ⟨_, rfl⟩
    have hM := hM.set 17 (Or.inl (by decide)) (upd (M 17) n 0)
    have hF : fw_P D cls10 A u3 H := by rw [hu3]; exact hF
    have hM : MWd cs am (va_up M 17 (upd (M 17) n 0), R, wy, an) u3 := by rw [hu3]; exact hM
    refine lv_iload_n hx hb dX9_clear_29 rfl (lv_at hl 0 rfl) ?_
    refine fw_iret X hF hS ?_ (Nat.le_of_ble_eq_true rfl) (Nat.le_of_ble_eq_true rfl) dX9_clear_30
    rw [hin]
    exact Or.inl ⟨c9_2, by rw [(hR.2.2.2.2.2.2.2.1 n hn).1], _, sl, hM, hR.joE hI⟩
  · rw [inn_wi (n := 4) rfl] at c9_2
    refine lv_bipush (v := (-2)) hx hb dX9_clear_12 (by decide) ?_
    refine fw_iret X hF hS ?_ (Nat.le_of_ble_eq_true rfl) (Nat.le_of_ble_eq_true rfl) dX9_clear_14
    exact Or.inr ⟨c9_2, rfl, hM⟩
