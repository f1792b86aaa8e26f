theorem mono_of (l : List Nat) (n : Nat) (h : ∀ k, k + 1 < n → l.getD k 0 < l.getD (k + 1) 0) : ∀ i j, i < j → j < n → l.getD i 0 < l.getD j 0 := by
  intro i j hij
  induction j with
  | zero => omega
  | succ j ih =>
    intro hj
    rcases Nat.lt_or_ge i j with h1 | h1
    · exact Nat.lt_trans (ih h1 (by omega)) (h j hj)
    · have : i = j := by omega
      subst this
      exact h i hj
theorem ad_inj {ad : Nat → Nat} (aL perm : List Nat) (h1 : ∀ i j, i < j → j < 46 → aL.getD i 0 < aL.getD j 0) (hp : (∀ t, t < 46 → perm.getD t 0 < 46) ∧ ∀ t, t < 46 → ∀ t', t' < 46 → perm.getD t 0 = perm.getD t' 0 → t = t') (h : ∀ t, t < 46 → ad t = aL.getD (perm.getD t 0) 0) : adI ad := by
  intro t t' ht ht' e
  rw [h t ht, h t' ht'] at e
  refine hp.2 t ht t' ht' ?_
  rcases Nat.lt_trichotomy (perm.getD t 0) (perm.getD t' 0) with z | z | z
  · have := h1 _ _ z (hp.1 t' ht'); omega
  · exact z
  · have := h1 _ _ z (hp.1 t ht); omega
def T00 : Sg := (fun _ => (false, 0, none, none, 0, 0), fun _ => (-1, fun _ => 0), fun _ => (-1, false, fun _ => none), fun _ => (-1, 0, fun _ => 0), fun _ => (0, fun _ => (0, 0, 0, 0, 0)), fun _ => 1, fun _ => 0, (0, 0, 0, -1, 0, 0), fun _ => none)
theorem T00_inv : Inv T00 := by
  refine ⟨fun i _ => ⟨(fun q h => by cases h), (fun q h => by cases h), fun _ => rfl, Or.inl rfl, fun _ => rfl⟩, fun i _ => ⟨(by decide : (-1 : Int32) ≤ -1), (by decide : (-1 : Int32) ≤ 12)⟩, fun i _ => ⟨⟨(by decide : (-1 : Int32) ≤ -1), (by decide : (-1 : Int32) ≤ 12)⟩, (fun j q _ h => by cases h)⟩, fun i _ => ⟨⟨(by decide : (-1 : Int32) ≤ -1), (by decide : (-1 : Int32) ≤ 12)⟩, (by decide : (0 : Int32) ≤ 0), (by decide : (0 : Int32) ≤ 12)⟩, fun j _ => ⟨(by decide : (0 : Int32) ≤ 0), (by decide : (0 : Int32) ≤ 16), fun k hk => absurd hk (Nat.not_lt_zero _)⟩, fun i _ => Or.inl rfl⟩
set_option maxHeartbeats 4000000 in
set_option maxRecDepth 100000 in
theorem c_X8_init (l : Launch) (D : va_G) (cs : Nat → ClassId) (w : fW) (sz : Nat) (h0 : Nat) (f_h0 : w h0 = some (.inr (8, [.null, .null, .null, .null, .null, .null, .null, .null]))) : gM l bs_B nw_B D cls10 (tyl cs) yX8_init cX8_init 2 none 2 40 44 838 w sz [.ref h0] (fun v w' => v = none ∧ ∃ ad jf, ad 0 = h0 ∧ SW cs ad T00 jf w') := by
  refine gM.of (by decide +kernel) (Nat.le_of_ble_eq_true rfl) (fun p e s m below meth c A ls X hsz hnm hF hS hl => ?_)
  have hx := X.1
  have hb := X.2.1
  have hl : lv_has ls 2 [(0, .ref h0)] := hl
  refine lv_aload_n hx hb dX8_init_0 rfl (lv_at hl 0 rfl) ?_
  refine W.objInit hx hb X.2.2.2.1 (X.2.2.2.2.1 _ wm_41) (X.2.2.2.2.1 _ wm_42) (X.2.2.2.2.1 _ wm_43) rfl (by rw [X.2.2.1]; exact hl.1) rfl dX8_init_1 (Nat.le_of_ble_eq_true rfl) (Nat.le_of_ble_eq_true rfl) ?_
  refine W.eq (g2 := F0 m 4 ls []) rfl ?_
  refine lv_aload_n hx hb dX8_init_4 rfl (lv_at hl 0 rfl) ?_
  refine lv_iconst (v := 4) hx hb dX8_init_5 (by decide) ?_
  have m_h0 := hF.lt f_h0
  refine fw_newq X hF hS wm_44 nm_45 2 rfl (N' := 4) (by decide) (by decide) (by decide) (Nat.le_of_ble_eq_true rfl) (Nat.le_of_ble_eq_true rfl) dX8_init_6 (fun q1 H nq1 zq1 zzq1 hF hS => ?_)
  have l_h0_q1 : h0 < q1 := Nat.lt_of_lt_of_le m_h0 (Nat.le_of_eq zq1.symm)
  clear m_h0
  have hF : fw_P D cls10 A (va_up w q1 (some (.inl (cs 2, 4, .inr (.inr (.inr (.inr (fun _ => none)))))))) H := hF
  obtain ⟨u2, hu2⟩ : ∃ y : fW, y = va_up w q1 (some (.inl (cs 2, 4, .inr (.inr (.inr (.inr (fun _ => none))))))) := ⟨_, rfl⟩
  rw [← hu2] at hF
  replace f_h0 : u2 h0 = some (.inr (8, [.null, .null, .null, .null, .null, .null, .null, .null])) := by rw [hu2]; exact (va_up_ne _ _ (Nat.ne_of_lt l_h0_q1)).trans f_h0
  have f_q1 : u2 q1 = some (.inl (cs 2, 4, .inr (.inr (.inr (.inr (fun _ => none)))))) := by rw [hu2]; exact va_up_self _ _ _
  refine fw_putF X gC_ok hF hS f_h0 rfl 0 (by decide) wm_176 rfl hnm rfl (tf := .array (.object "CycleShop$Stand")) (by decide +kernel) rfl rfl (Nat.le_of_ble_eq_true rfl) dX8_init_9 (fun H locs hF hS => ?_)
  have hF : fw_P D cls10 A (va_up u2 h0 (some (.inr (8, [.ref q1, .null, .null, .null, .null, .null, .null, .null])))) H := hF
  obtain ⟨u3, hu3⟩ : ∃ y : fW, y = va_up u2 h0 (some (.inr (8, [.ref q1, .null, .null, .null, .null, .null, .null, .null]))) := ⟨_, rfl⟩
  rw [← hu3] at hF
  replace f_q1 : u3 q1 = some (.inl (cs 2, 4, .inr (.inr (.inr (.inr (fun _ => none)))))) := by rw [hu3]; exact (va_up_ne _ _ (Nat.ne_of_gt l_h0_q1)).trans f_q1
  replace f_h0 : u3 h0 = some (.inr (8, [.ref q1, .null, .null, .null, .null, .null, .null, .null])) := by rw [hu3]; exact va_up_self _ _ _
  refine lv_aload_n hx hb dX8_init_12 rfl (lv_at hl 0 rfl) ?_
  refine lv_iconst (v := 4) hx hb dX8_init_13 (by decide) ?_
  have m_q1 := hF.lt f_q1
  have m_h0 := hF.lt f_h0
  refine fw_newq X hF hS wm_46 nm_47 3 rfl (N' := 4) (by decide) (by decide) (by decide) (Nat.le_of_ble_eq_true rfl) (Nat.le_of_ble_eq_true rfl) dX8_init_14 (fun q4 H nq4 zq4 zzq4 hF hS => ?_)
  have l_q1_q4 : q1 < q4 := Nat.lt_of_lt_of_le m_q1 (Nat.le_of_eq zq4.symm)
  have l_h0_q4 : h0 < q4 := Nat.lt_of_lt_of_le m_h0 (Nat.le_of_eq zq4.symm)
  clear m_q1 m_h0
  have hF : fw_P D cls10 A (va_up u3 q4 (some (.inl (cs 3, 4, .inr (.inr (.inr (.inr (fun _ => none)))))))) H := hF
  obtain ⟨u5, hu5⟩ : ∃ y : fW, y = va_up u3 q4 (some (.inl (cs 3, 4, .inr (.inr (.inr (.inr (fun _ => none))))))) := ⟨_, rfl⟩
  rw [← hu5] at hF
  replace f_q1 : u5 q1 = some (.inl (cs 2, 4, .inr (.inr (.inr (.inr (fun _ => none)))))) := by rw [hu5]; exact (va_up_ne _ _ (Nat.ne_of_lt l_q1_q4)).trans f_q1
  replace f_h0 : u5 h0 = some (.inr (8, [.ref q1, .null, .null, .null, .null, .null, .null, .null])) := by rw [hu5]; exact (va_up_ne _ _ (Nat.ne_of_lt l_h0_q4)).trans f_h0
  have f_q4 : u5 q4 = some (.inl (cs 3, 4, .inr (.inr (.inr (.inr (fun _ => none)))))) := by rw [hu5]; exact va_up_self _ _ _
  refine fw_putF X gC_ok hF hS f_h0 rfl 1 (by decide) wm_177 rfl hnm rfl (tf := .array (.object "CycleShop$Basket")) (by decide +kernel) rfl rfl (Nat.le_of_ble_eq_true rfl) dX8_init_17 (fun H locs hF hS => ?_)
  have hF : fw_P D cls10 A (va_up u5 h0 (some (.inr (8, [.ref q1, .ref q4, .null, .null, .null, .null, .null, .null])))) H := hF
  obtain ⟨u6, hu6⟩ : ∃ y : fW, y = va_up u5 h0 (some (.inr (8, [.ref q1, .ref q4, .null, .null, .null, .null, .null, .null]))) := ⟨_, rfl⟩
  rw [← hu6] at hF
  replace f_q1 : u6 q1 = some (.inl (cs 2, 4, .inr (.inr (.inr (.inr (fun _ => none)))))) := by rw [hu6]; exact (va_up_ne _ _ (Nat.ne_of_gt l_h0_q1)).trans f_q1
  replace f_q4 : u6 q4 = some (.inl (cs 3, 4, .inr (.inr (.inr (.inr (fun _ => none)))))) := by rw [hu6]; exact (va_up_ne _ _ (Nat.ne_of_gt l_h0_q4)).trans f_q4
  replace f_h0 : u6 h0 = some (.inr (8, [.ref q1, .ref q4, .null, .null, .null, .null, .null, .null])) := by rw [hu6]; exact va_up_self _ _ _
  refine lv_aload_n hx hb dX8_init_20 rfl (lv_at hl 0 rfl) ?_
  refine lv_iconst (v := 4) hx hb dX8_init_21 (by decide) ?_
  have m_q1 := hF.lt f_q1
  have m_q4 := hF.lt f_q4
  have m_h0 := hF.lt f_h0
  refine fw_newq X hF hS wm_48 nm_49 4 rfl (N' := 4) (by decide) (by decide) (by decide) (Nat.le_of_ble_eq_true rfl) (Nat.le_of_ble_eq_true rfl) dX8_init_22 (fun q7 H nq7 zq7 zzq7 hF hS => ?_)
  have l_q1_q7 : q1 < q7 := Nat.lt_of_lt_of_le m_q1 (Nat.le_of_eq zq7.symm)
  have l_q4_q7 : q4 < q7 := Nat.lt_of_lt_of_le m_q4 (Nat.le_of_eq zq7.symm)
  have l_h0_q7 : h0 < q7 := Nat.lt_of_lt_of_le m_h0 (Nat.le_of_eq zq7.symm)
  clear m_q1 m_q4 m_h0
  have hF : fw_P D cls10 A (va_up u6 q7 (some (.inl (cs 4, 4, .inr (.inr (.inr (.inr (fun _ => none)))))))) H := hF
  obtain ⟨u8, hu8⟩ : ∃ y : fW, y = va_up u6 q7 (some (.inl (cs 4, 4, .inr (.inr (.inr (.inr (fun _ => none))))))) := ⟨_, rfl⟩
  rw [← hu8] at hF
  replace f_q1 : u8 q1 = some (.inl (cs 2, 4, .inr (.inr (.inr (.inr (fun _ => none)))))) := by rw [hu8]; exact (va_up_ne _ _ (Nat.ne_of_lt l_q1_q7)).trans f_q1
  replace f_q4 : u8 q4 = some (.inl (cs 3, 4, .inr (.inr (.inr (.inr (fun _ => none)))))) := by rw [hu8]; exact (va_up_ne _ _ (Nat.ne_of_lt l_q4_q7)).trans f_q4
  replace f_h0 : u8 h0 = some (.inr (8, [.ref q1, .ref q4, .null, .null, .null, .null, .null, .null])) := by rw [hu8]; exact (va_up_ne _ _ (Nat.ne_of_lt l_h0_q7)).trans f_h0
  have f_q7 : u8 q7 = some (.inl (cs 4, 4, .inr (.inr (.inr (.inr (fun _ => none)))))) := by rw [hu8]; exact va_up_self _ _ _
  refine fw_putF X gC_ok hF hS f_h0 rfl 2 (by decide) wm_178 rfl hnm rfl (tf := .array (.object "CycleShop$Rack")) (by decide +kernel) rfl rfl (Nat.le_of_ble_eq_true rfl) dX8_init_25 (fun H locs hF hS => ?_)
  have hF : fw_P D cls10 A (va_up u8 h0 (some (.inr (8, [.ref q1, .ref q4, .ref q7, .null, .null, .null, .null, .null])))) H := hF
  obtain ⟨u9, hu9⟩ : ∃ y : fW, y = va_up u8 h0 (some (.inr (8, [.ref q1, .ref q4, .ref q7, .null, .null, .null, .null, .null]))) := ⟨_, rfl⟩
  rw [← hu9] at hF
  replace f_q1 : u9 q1 = some (.inl (cs 2, 4, .inr (.inr (.inr (.inr (fun _ => none)))))) := by rw [hu9]; exact (va_up_ne _ _ (Nat.ne_of_gt l_h0_q1)).trans f_q1
  replace f_q4 : u9 q4 = some (.inl (cs 3, 4, .inr (.inr (.inr (.inr (fun _ => none)))))) := by rw [hu9]; exact (va_up_ne _ _ (Nat.ne_of_gt l_h0_q4)).trans f_q4
  replace f_q7 : u9 q7 = some (.inl (cs 4, 4, .inr (.inr (.inr (.inr (fun _ => none)))))) := by rw [hu9]; exact (va_up_ne _ _ (Nat.ne_of_gt l_h0_q7)).trans f_q7
  replace f_h0 : u9 h0 = some (.inr (8, [.ref q1, .ref q4, .ref q7, .null, .null, .null, .null, .null])) := by rw [hu9]; exact va_up_self _ _ _
  refine lv_aload_n hx hb dX8_init_28 rfl (lv_at hl 0 rfl) ?_
  refine lv_iconst (v := 4) hx hb dX8_init_29 (by decide) ?_
  have m_q1 := hF.lt f_q1
  have m_q4 := hF.lt f_q4
  have m_q7 := hF.lt f_q7
  have m_h0 := hF.lt f_h0
  refine fw_newq X hF hS wm_50 nm_51 5 rfl (N' := 4) (by decide) (by decide) (by decide) (Nat.le_of_ble_eq_true rfl) (Nat.le_of_ble_eq_true rfl) dX8_init_30 (fun q10 H nq10 zq10 zzq10 hF hS => ?_)
  have l_q1_q10 : q1 < q10 := Nat.lt_of_lt_of_le m_q1 (Nat.le_of_eq zq10.symm)
  have l_q4_q10 : q4 < q10 := Nat.lt_of_lt_of_le m_q4 (Nat.le_of_eq zq10.symm)
  have l_q7_q10 : q7 < q10 := Nat.lt_of_lt_of_le m_q7 (Nat.le_of_eq zq10.symm)
  have l_h0_q10 : h0 < q10 := Nat.lt_of_lt_of_le m_h0 (Nat.le_of_eq zq10.symm)
  clear m_q1 m_q4 m_q7 m_h0
  have hF : fw_P D cls10 A (va_up u9 q10 (some (.inl (cs 5, 4, .inr (.inr (.inr (.inr (fun _ => none)))))))) H := hF
  obtain ⟨u11, hu11⟩ : ∃ y : fW, y = va_up u9 q10 (some (.inl (cs 5, 4, .inr (.inr (.inr (.inr (fun _ => none))))))) := ⟨_, rfl⟩
  rw [← hu11] at hF
  replace f_q1 : u11 q1 = some (.inl (cs 2, 4, .inr (.inr (.inr (.inr (fun _ => none)))))) := by rw [hu11]; exact (va_up_ne _ _ (Nat.ne_of_lt l_q1_q10)).trans f_q1
  replace f_q4 : u11 q4 = some (.inl (cs 3, 4, .inr (.inr (.inr (.inr (fun _ => none)))))) := by rw [hu11]; exact (va_up_ne _ _ (Nat.ne_of_lt l_q4_q10)).trans f_q4
  replace f_q7 : u11 q7 = some (.inl (cs 4, 4, .inr (.inr (.inr (.inr (fun _ => none)))))) := by rw [hu11]; exact (va_up_ne _ _ (Nat.ne_of_lt l_q7_q10)).trans f_q7
  replace f_h0 : u11 h0 = some (.inr (8, [.ref q1, .ref q4, .ref q7, .null, .null, .null, .null, .null])) := by rw [hu11]; exact (va_up_ne _ _ (Nat.ne_of_lt l_h0_q10)).trans f_h0
  have f_q10 : u11 q10 = some (.inl (cs 5, 4, .inr (.inr (.inr (.inr (fun _ => none)))))) := by rw [hu11]; exact va_up_self _ _ _
  refine fw_putF X gC_ok hF hS f_h0 rfl 3 (by decide) wm_179 rfl hnm rfl (tf := .array (.object "CycleShop$Grid")) (by decide +kernel) rfl rfl (Nat.le_of_ble_eq_true rfl) dX8_init_33 (fun H locs hF hS => ?_)
  have hF : fw_P D cls10 A (va_up u11 h0 (some (.inr (8, [.ref q1, .ref q4, .ref q7, .ref q10, .null, .null, .null, .null])))) H := hF
  obtain ⟨u12, hu12⟩ : ∃ y : fW, y = va_up u11 h0 (some (.inr (8, [.ref q1, .ref q4, .ref q7, .ref q10, .null, .null, .null, .null]))) := ⟨_, rfl⟩
  rw [← hu12] at hF
  replace f_q1 : u12 q1 = some (.inl (cs 2, 4, .inr (.inr (.inr (.inr (fun _ => none)))))) := by rw [hu12]; exact (va_up_ne _ _ (Nat.ne_of_gt l_h0_q1)).trans f_q1
  replace f_q4 : u12 q4 = some (.inl (cs 3, 4, .inr (.inr (.inr (.inr (fun _ => none)))))) := by rw [hu12]; exact (va_up_ne _ _ (Nat.ne_of_gt l_h0_q4)).trans f_q4
  replace f_q7 : u12 q7 = some (.inl (cs 4, 4, .inr (.inr (.inr (.inr (fun _ => none)))))) := by rw [hu12]; exact (va_up_ne _ _ (Nat.ne_of_gt l_h0_q7)).trans f_q7
  replace f_q10 : u12 q10 = some (.inl (cs 5, 4, .inr (.inr (.inr (.inr (fun _ => none)))))) := by rw [hu12]; exact (va_up_ne _ _ (Nat.ne_of_gt l_h0_q10)).trans f_q10
  replace f_h0 : u12 h0 = some (.inr (8, [.ref q1, .ref q4, .ref q7, .ref q10, .null, .null, .null, .null])) := by rw [hu12]; exact va_up_self _ _ _
  refine lv_aload_n hx hb dX8_init_36 rfl (lv_at hl 0 rfl) ?_
  refine lv_iconst (v := 4) hx hb dX8_init_37 (by decide) ?_
  have m_q1 := hF.lt f_q1
  have m_q4 := hF.lt f_q4
  have m_q7 := hF.lt f_q7
  have m_q10 := hF.lt f_q10
  have m_h0 := hF.lt f_h0
  refine fw_newq X hF hS wm_52 nm_53 6 rfl (N' := 4) (by decide) (by decide) (by decide) (Nat.le_of_ble_eq_true rfl) (Nat.le_of_ble_eq_true rfl) dX8_init_38 (fun q13 H nq13 zq13 zzq13 hF hS => ?_)
  have l_q1_q13 : q1 < q13 := Nat.lt_of_lt_of_le m_q1 (Nat.le_of_eq zq13.symm)
  have l_q4_q13 : q4 < q13 := Nat.lt_of_lt_of_le m_q4 (Nat.le_of_eq zq13.symm)
  have l_q7_q13 : q7 < q13 := Nat.lt_of_lt_of_le m_q7 (Nat.le_of_eq zq13.symm)
  have l_q10_q13 : q10 < q13 := Nat.lt_of_lt_of_le m_q10 (Nat.le_of_eq zq13.symm)
  have l_h0_q13 : h0 < q13 := Nat.lt_of_lt_of_le m_h0 (Nat.le_of_eq zq13.symm)
  clear m_q1 m_q4 m_q7 m_q10 m_h0
  have hF : fw_P D cls10 A (va_up u12 q13 (some (.inl (cs 6, 4, .inr (.inr (.inr (.inr (fun _ => none)))))))) H := hF
  obtain ⟨u14, hu14⟩ : ∃ y : fW, y = va_up u12 q13 (some (.inl (cs 6, 4, .inr (.inr (.inr (.inr (fun _ => none))))))) := ⟨_, rfl⟩
  rw [← hu14] at hF
  replace f_q1 : u14 q1 = some (.inl (cs 2, 4, .inr (.inr (.inr (.inr (fun _ => none)))))) := by rw [hu14]; exact (va_up_ne _ _ (Nat.ne_of_lt l_q1_q13)).trans f_q1
  replace f_q4 : u14 q4 = some (.inl (cs 3, 4, .inr (.inr (.inr (.inr (fun _ => none)))))) := by rw [hu14]; exact (va_up_ne _ _ (Nat.ne_of_lt l_q4_q13)).trans f_q4
  replace f_q7 : u14 q7 = some (.inl (cs 4, 4, .inr (.inr (.inr (.inr (fun _ => none)))))) := by rw [hu14]; exact (va_up_ne _ _ (Nat.ne_of_lt l_q7_q13)).trans f_q7
  replace f_q10 : u14 q10 = some (.inl (cs 5, 4, .inr (.inr (.inr (.inr (fun _ => none)))))) := by rw [hu14]; exact (va_up_ne _ _ (Nat.ne_of_lt l_q10_q13)).trans f_q10
  replace f_h0 : u14 h0 = some (.inr (8, [.ref q1, .ref q4, .ref q7, .ref q10, .null, .null, .null, .null])) := by rw [hu14]; exact (va_up_ne _ _ (Nat.ne_of_lt l_h0_q13)).trans f_h0
  have f_q13 : u14 q13 = some (.inl (cs 6, 4, .inr (.inr (.inr (.inr (fun _ => none)))))) := by rw [hu14]; exact va_up_self _ _ _
  refine fw_putF X gC_ok hF hS f_h0 rfl 4 (by decide) wm_180 rfl hnm rfl (tf := .array (.object "CycleShop$Job")) (by decide +kernel) rfl rfl (Nat.le_of_ble_eq_true rfl) dX8_init_41 (fun H locs hF hS => ?_)
  have hF : fw_P D cls10 A (va_up u14 h0 (some (.inr (8, [.ref q1, .ref q4, .ref q7, .ref q10, .ref q13, .null, .null, .null])))) H := hF
  obtain ⟨u15, hu15⟩ : ∃ y : fW, y = va_up u14 h0 (some (.inr (8, [.ref q1, .ref q4, .ref q7, .ref q10, .ref q13, .null, .null, .null]))) := ⟨_, rfl⟩
  rw [← hu15] at hF
  replace f_q1 : u15 q1 = some (.inl (cs 2, 4, .inr (.inr (.inr (.inr (fun _ => none)))))) := by rw [hu15]; exact (va_up_ne _ _ (Nat.ne_of_gt l_h0_q1)).trans f_q1
  replace f_q4 : u15 q4 = some (.inl (cs 3, 4, .inr (.inr (.inr (.inr (fun _ => none)))))) := by rw [hu15]; exact (va_up_ne _ _ (Nat.ne_of_gt l_h0_q4)).trans f_q4
  replace f_q7 : u15 q7 = some (.inl (cs 4, 4, .inr (.inr (.inr (.inr (fun _ => none)))))) := by rw [hu15]; exact (va_up_ne _ _ (Nat.ne_of_gt l_h0_q7)).trans f_q7
  replace f_q10 : u15 q10 = some (.inl (cs 5, 4, .inr (.inr (.inr (.inr (fun _ => none)))))) := by rw [hu15]; exact (va_up_ne _ _ (Nat.ne_of_gt l_h0_q10)).trans f_q10
  replace f_q13 : u15 q13 = some (.inl (cs 6, 4, .inr (.inr (.inr (.inr (fun _ => none)))))) := by rw [hu15]; exact (va_up_ne _ _ (Nat.ne_of_gt l_h0_q13)).trans f_q13
  replace f_h0 : u15 h0 = some (.inr (8, [.ref q1, .ref q4, .ref q7, .ref q10, .ref q13, .null, .null, .null])) := by rw [hu15]; exact va_up_self _ _ _
  refine lv_aload_n hx hb dX8_init_44 rfl (lv_at hl 0 rfl) ?_
  refine lv_iconst (v := 4) hx hb dX8_init_45 (by decide) ?_
  have m_q1 := hF.lt f_q1
  have m_q4 := hF.lt f_q4
  have m_q7 := hF.lt f_q7
  have m_q10 := hF.lt f_q10
  have m_q13 := hF.lt f_q13
  have m_h0 := hF.lt f_h0
  refine fw_newa X hF hS (atype := .int) wm_85 rfl (fun _ h => by cases h) 0 rfl (N' := 4) (a0 := (4, .inl (fun _ => 0))) rfl (by decide) (by decide) (by decide) (Nat.le_of_ble_eq_true rfl) (Nat.le_of_ble_eq_true rfl) dX8_init_46 (fun q16 H nq16 zq16 zzq16 hF hS => ?_)
  have l_q1_q16 : q1 < q16 := Nat.lt_of_lt_of_le m_q1 (Nat.le_of_eq zq16.symm)
  have l_q4_q16 : q4 < q16 := Nat.lt_of_lt_of_le m_q4 (Nat.le_of_eq zq16.symm)
  have l_q7_q16 : q7 < q16 := Nat.lt_of_lt_of_le m_q7 (Nat.le_of_eq zq16.symm)
  have l_q10_q16 : q10 < q16 := Nat.lt_of_lt_of_le m_q10 (Nat.le_of_eq zq16.symm)
  have l_q13_q16 : q13 < q16 := Nat.lt_of_lt_of_le m_q13 (Nat.le_of_eq zq16.symm)
  have l_h0_q16 : h0 < q16 := Nat.lt_of_lt_of_le m_h0 (Nat.le_of_eq zq16.symm)
  clear m_q1 m_q4 m_q7 m_q10 m_q13 m_h0
  have hF : fw_P D cls10 A (va_up u15 q16 (some (.inl (cs 0, 4, .inl (fun _ => 0))))) H := hF
  obtain ⟨u17, hu17⟩ : ∃ y : fW, y = va_up u15 q16 (some (.inl (cs 0, 4, .inl (fun _ => 0)))) := ⟨_, rfl⟩
  rw [← hu17] at hF
  replace f_q1 : u17 q1 = some (.inl (cs 2, 4, .inr (.inr (.inr (.inr (fun _ => none)))))) := by rw [hu17]; exact (va_up_ne _ _ (Nat.ne_of_lt l_q1_q16)).trans f_q1
  replace f_q4 : u17 q4 = some (.inl (cs 3, 4, .inr (.inr (.inr (.inr (fun _ => none)))))) := by rw [hu17]; exact (va_up_ne _ _ (Nat.ne_of_lt l_q4_q16)).trans f_q4
  replace f_q7 : u17 q7 = some (.inl (cs 4, 4, .inr (.inr (.inr (.inr (fun _ => none)))))) := by rw [hu17]; exact (va_up_ne _ _ (Nat.ne_of_lt l_q7_q16)).trans f_q7
  replace f_q10 : u17 q10 = some (.inl (cs 5, 4, .inr (.inr (.inr (.inr (fun _ => none)))))) := by rw [hu17]; exact (va_up_ne _ _ (Nat.ne_of_lt l_q10_q16)).trans f_q10
  replace f_q13 : u17 q13 = some (.inl (cs 6, 4, .inr (.inr (.inr (.inr (fun _ => none)))))) := by rw [hu17]; exact (va_up_ne _ _ (Nat.ne_of_lt l_q13_q16)).trans f_q13
  replace f_h0 : u17 h0 = some (.inr (8, [.ref q1, .ref q4, .ref q7, .ref q10, .ref q13, .null, .null, .null])) := by rw [hu17]; exact (va_up_ne _ _ (Nat.ne_of_lt l_h0_q16)).trans f_h0
  have f_q16 : u17 q16 = some (.inl (cs 0, 4, .inl (fun _ => 0))) := by rw [hu17]; exact va_up_self _ _ _
  refine fw_putF X gC_ok hF hS f_h0 rfl 5 (by decide) wm_181 rfl hnm rfl (tf := .array .int) (by decide +kernel) rfl rfl (Nat.le_of_ble_eq_true rfl) dX8_init_48 (fun H locs hF hS => ?_)
  have hF : fw_P D cls10 A (va_up u17 h0 (some (.inr (8, [.ref q1, .ref q4, .ref q7, .ref q10, .ref q13, .ref q16, .null, .null])))) H := hF
  obtain ⟨u18, hu18⟩ : ∃ y : fW, y = va_up u17 h0 (some (.inr (8, [.ref q1, .ref q4, .ref q7, .ref q10, .ref q13, .ref q16, .null, .null]))) := ⟨_, rfl⟩
  rw [← hu18] at hF
  replace f_q1 : u18 q1 = some (.inl (cs 2, 4, .inr (.inr (.inr (.inr (fun _ => none)))))) := by rw [hu18]; exact (va_up_ne _ _ (Nat.ne_of_gt l_h0_q1)).trans f_q1
  replace f_q4 : u18 q4 = some (.inl (cs 3, 4, .inr (.inr (.inr (.inr (fun _ => none)))))) := by rw [hu18]; exact (va_up_ne _ _ (Nat.ne_of_gt l_h0_q4)).trans f_q4
  replace f_q7 : u18 q7 = some (.inl (cs 4, 4, .inr (.inr (.inr (.inr (fun _ => none)))))) := by rw [hu18]; exact (va_up_ne _ _ (Nat.ne_of_gt l_h0_q7)).trans f_q7
  replace f_q10 : u18 q10 = some (.inl (cs 5, 4, .inr (.inr (.inr (.inr (fun _ => none)))))) := by rw [hu18]; exact (va_up_ne _ _ (Nat.ne_of_gt l_h0_q10)).trans f_q10
  replace f_q13 : u18 q13 = some (.inl (cs 6, 4, .inr (.inr (.inr (.inr (fun _ => none)))))) := by rw [hu18]; exact (va_up_ne _ _ (Nat.ne_of_gt l_h0_q13)).trans f_q13
  replace f_q16 : u18 q16 = some (.inl (cs 0, 4, .inl (fun _ => 0))) := by rw [hu18]; exact (va_up_ne _ _ (Nat.ne_of_gt l_h0_q16)).trans f_q16
  replace f_h0 : u18 h0 = some (.inr (8, [.ref q1, .ref q4, .ref q7, .ref q10, .ref q13, .ref q16, .null, .null])) := by rw [hu18]; exact va_up_self _ _ _
  refine lv_aload_n hx hb dX8_init_51 rfl (lv_at hl 0 rfl) ?_
  refine lv_bipush (v := 8) hx hb dX8_init_52 (by decide) ?_
  have m_q1 := hF.lt f_q1
  have m_q4 := hF.lt f_q4
  have m_q7 := hF.lt f_q7
  have m_q10 := hF.lt f_q10
  have m_q13 := hF.lt f_q13
  have m_q16 := hF.lt f_q16
  have m_h0 := hF.lt f_h0
  refine fw_newa X hF hS (atype := .int) wm_85 rfl (fun _ h => by cases h) 0 rfl (N' := 8) (a0 := (8, .inl (fun _ => 0))) rfl (by decide) (by decide) (by decide) (Nat.le_of_ble_eq_true rfl) (Nat.le_of_ble_eq_true rfl) dX8_init_54 (fun q19 H nq19 zq19 zzq19 hF hS => ?_)
  have l_q1_q19 : q1 < q19 := Nat.lt_of_lt_of_le m_q1 (Nat.le_of_eq zq19.symm)
  have l_q4_q19 : q4 < q19 := Nat.lt_of_lt_of_le m_q4 (Nat.le_of_eq zq19.symm)
  have l_q7_q19 : q7 < q19 := Nat.lt_of_lt_of_le m_q7 (Nat.le_of_eq zq19.symm)
  have l_q10_q19 : q10 < q19 := Nat.lt_of_lt_of_le m_q10 (Nat.le_of_eq zq19.symm)
  have l_q13_q19 : q13 < q19 := Nat.lt_of_lt_of_le m_q13 (Nat.le_of_eq zq19.symm)
  have l_q16_q19 : q16 < q19 := Nat.lt_of_lt_of_le m_q16 (Nat.le_of_eq zq19.symm)
  have l_h0_q19 : h0 < q19 := Nat.lt_of_lt_of_le m_h0 (Nat.le_of_eq zq19.symm)
  clear m_q1 m_q4 m_q7 m_q10 m_q13 m_q16 m_h0
  have hF : fw_P D cls10 A (va_up u18 q19 (some (.inl (cs 0, 8, .inl (fun _ => 0))))) H := hF
  obtain ⟨u20, hu20⟩ : ∃ y : fW, y = va_up u18 q19 (some (.inl (cs 0, 8, .inl (fun _ => 0)))) := ⟨_, rfl⟩
  rw [← hu20] at hF
  replace f_q1 : u20 q1 = some (.inl (cs 2, 4, .inr (.inr (.inr (.inr (fun _ => none)))))) := by rw [hu20]; exact (va_up_ne _ _ (Nat.ne_of_lt l_q1_q19)).trans f_q1
  replace f_q4 : u20 q4 = some (.inl (cs 3, 4, .inr (.inr (.inr (.inr (fun _ => none)))))) := by rw [hu20]; exact (va_up_ne _ _ (Nat.ne_of_lt l_q4_q19)).trans f_q4
  replace f_q7 : u20 q7 = some (.inl (cs 4, 4, .inr (.inr (.inr (.inr (fun _ => none)))))) := by rw [hu20]; exact (va_up_ne _ _ (Nat.ne_of_lt l_q7_q19)).trans f_q7
  replace f_q10 : u20 q10 = some (.inl (cs 5, 4, .inr (.inr (.inr (.inr (fun _ => none)))))) := by rw [hu20]; exact (va_up_ne _ _ (Nat.ne_of_lt l_q10_q19)).trans f_q10
  replace f_q13 : u20 q13 = some (.inl (cs 6, 4, .inr (.inr (.inr (.inr (fun _ => none)))))) := by rw [hu20]; exact (va_up_ne _ _ (Nat.ne_of_lt l_q13_q19)).trans f_q13
  replace f_q16 : u20 q16 = some (.inl (cs 0, 4, .inl (fun _ => 0))) := by rw [hu20]; exact (va_up_ne _ _ (Nat.ne_of_lt l_q16_q19)).trans f_q16
  replace f_h0 : u20 h0 = some (.inr (8, [.ref q1, .ref q4, .ref q7, .ref q10, .ref q13, .ref q16, .null, .null])) := by rw [hu20]; exact (va_up_ne _ _ (Nat.ne_of_lt l_h0_q19)).trans f_h0
  have f_q19 : u20 q19 = some (.inl (cs 0, 8, .inl (fun _ => 0))) := by rw [hu20]; exact va_up_self _ _ _
  refine fw_putF X gC_ok hF hS f_h0 rfl 6 (by decide) wm_182 rfl hnm rfl (tf := .array .int) (by decide +kernel) rfl rfl (Nat.le_of_ble_eq_true rfl) dX8_init_56 (fun H locs hF hS => ?_)
  have hF : fw_P D cls10 A (va_up u20 h0 (some (.inr (8, [.ref q1, .ref q4, .ref q7, .ref q10, .ref q13, .ref q16, .ref q19, .null])))) H := hF
  obtain ⟨u21, hu21⟩ : ∃ y : fW, y = va_up u20 h0 (some (.inr (8, [.ref q1, .ref q4, .ref q7, .ref q10, .ref q13, .ref q16, .ref q19, .null]))) := ⟨_, rfl⟩
  rw [← hu21] at hF
  replace f_q1 : u21 q1 = some (.inl (cs 2, 4, .inr (.inr (.inr (.inr (fun _ => none)))))) := by rw [hu21]; exact (va_up_ne _ _ (Nat.ne_of_gt l_h0_q1)).trans f_q1
  replace f_q4 : u21 q4 = some (.inl (cs 3, 4, .inr (.inr (.inr (.inr (fun _ => none)))))) := by rw [hu21]; exact (va_up_ne _ _ (Nat.ne_of_gt l_h0_q4)).trans f_q4
  replace f_q7 : u21 q7 = some (.inl (cs 4, 4, .inr (.inr (.inr (.inr (fun _ => none)))))) := by rw [hu21]; exact (va_up_ne _ _ (Nat.ne_of_gt l_h0_q7)).trans f_q7
  replace f_q10 : u21 q10 = some (.inl (cs 5, 4, .inr (.inr (.inr (.inr (fun _ => none)))))) := by rw [hu21]; exact (va_up_ne _ _ (Nat.ne_of_gt l_h0_q10)).trans f_q10
  replace f_q13 : u21 q13 = some (.inl (cs 6, 4, .inr (.inr (.inr (.inr (fun _ => none)))))) := by rw [hu21]; exact (va_up_ne _ _ (Nat.ne_of_gt l_h0_q13)).trans f_q13
  replace f_q16 : u21 q16 = some (.inl (cs 0, 4, .inl (fun _ => 0))) := by rw [hu21]; exact (va_up_ne _ _ (Nat.ne_of_gt l_h0_q16)).trans f_q16
  replace f_q19 : u21 q19 = some (.inl (cs 0, 8, .inl (fun _ => 0))) := by rw [hu21]; exact (va_up_ne _ _ (Nat.ne_of_gt l_h0_q19)).trans f_q19
  replace f_h0 : u21 h0 = some (.inr (8, [.ref q1, .ref q4, .ref q7, .ref q10, .ref q13, .ref q16, .ref q19, .null])) := by rw [hu21]; exact va_up_self _ _ _
  refine lv_aload_n hx hb dX8_init_59 rfl (lv_at hl 0 rfl) ?_
  have m_q1 := hF.lt f_q1
  have m_q4 := hF.lt f_q4
  have m_q7 := hF.lt f_q7
  have m_q10 := hF.lt f_q10
  have m_q13 := hF.lt f_q13
  have m_q16 := hF.lt f_q16
  have m_q19 := hF.lt f_q19
  have m_h0 := hF.lt f_h0
  refine fw_new (ci := 4) (fs := [.int 0, .int 0, .int 0, .int 0, .int 0, .long 0]) X gC_ok hF hS rfl tyX4 tyX4_ok (by decide +kernel) wm_54 wm_55 wm_26 (Nat.le_of_ble_eq_true rfl) (Nat.le_of_ble_eq_true rfl) dX8_init_60 (fun q22 H nq22 zq22 zzq22 hF hS => ?_)
  have l_q1_q22 : q1 < q22 := Nat.lt_of_lt_of_le m_q1 (Nat.le_of_eq zq22.symm)
  have l_q4_q22 : q4 < q22 := Nat.lt_of_lt_of_le m_q4 (Nat.le_of_eq zq22.symm)
  have l_q7_q22 : q7 < q22 := Nat.lt_of_lt_of_le m_q7 (Nat.le_of_eq zq22.symm)
  have l_q10_q22 : q10 < q22 := Nat.lt_of_lt_of_le m_q10 (Nat.le_of_eq zq22.symm)
  have l_q13_q22 : q13 < q22 := Nat.lt_of_lt_of_le m_q13 (Nat.le_of_eq zq22.symm)
  have l_q16_q22 : q16 < q22 := Nat.lt_of_lt_of_le m_q16 (Nat.le_of_eq zq22.symm)
  have l_q19_q22 : q19 < q22 := Nat.lt_of_lt_of_le m_q19 (Nat.le_of_eq zq22.symm)
  have l_h0_q22 : h0 < q22 := Nat.lt_of_lt_of_le m_h0 (Nat.le_of_eq zq22.symm)
  clear m_q1 m_q4 m_q7 m_q10 m_q13 m_q16 m_q19 m_h0
  have hF : fw_P D cls10 A (va_up u21 q22 (some (.inr (4, [.int 0, .int 0, .int 0, .int 0, .int 0, .long 0])))) H := hF
  obtain ⟨u23, hu23⟩ : ∃ y : fW, y = va_up u21 q22 (some (.inr (4, [.int 0, .int 0, .int 0, .int 0, .int 0, .long 0]))) := ⟨_, rfl⟩
  rw [← hu23] at hF
  replace f_q1 : u23 q1 = some (.inl (cs 2, 4, .inr (.inr (.inr (.inr (fun _ => none)))))) := by rw [hu23]; exact (va_up_ne _ _ (Nat.ne_of_lt l_q1_q22)).trans f_q1
  replace f_q4 : u23 q4 = some (.inl (cs 3, 4, .inr (.inr (.inr (.inr (fun _ => none)))))) := by rw [hu23]; exact (va_up_ne _ _ (Nat.ne_of_lt l_q4_q22)).trans f_q4
  replace f_q7 : u23 q7 = some (.inl (cs 4, 4, .inr (.inr (.inr (.inr (fun _ => none)))))) := by rw [hu23]; exact (va_up_ne _ _ (Nat.ne_of_lt l_q7_q22)).trans f_q7
  replace f_q10 : u23 q10 = some (.inl (cs 5, 4, .inr (.inr (.inr (.inr (fun _ => none)))))) := by rw [hu23]; exact (va_up_ne _ _ (Nat.ne_of_lt l_q10_q22)).trans f_q10
  replace f_q13 : u23 q13 = some (.inl (cs 6, 4, .inr (.inr (.inr (.inr (fun _ => none)))))) := by rw [hu23]; exact (va_up_ne _ _ (Nat.ne_of_lt l_q13_q22)).trans f_q13
  replace f_q16 : u23 q16 = some (.inl (cs 0, 4, .inl (fun _ => 0))) := by rw [hu23]; exact (va_up_ne _ _ (Nat.ne_of_lt l_q16_q22)).trans f_q16
  replace f_q19 : u23 q19 = some (.inl (cs 0, 8, .inl (fun _ => 0))) := by rw [hu23]; exact (va_up_ne _ _ (Nat.ne_of_lt l_q19_q22)).trans f_q19
  replace f_h0 : u23 h0 = some (.inr (8, [.ref q1, .ref q4, .ref q7, .ref q10, .ref q13, .ref q16, .ref q19, .null])) := by rw [hu23]; exact (va_up_ne _ _ (Nat.ne_of_lt l_h0_q22)).trans f_h0
  have f_q22 : u23 q22 = some (.inr (4, [.int 0, .int 0, .int 0, .int 0, .int 0, .long 0])) := by rw [hu23]; exact va_up_self _ _ _
  refine lv_dup hx hb dX8_init_63 rfl ?_
  refine fw_callIN (As := []) (rest := [.ref q22, .ref h0]) X bs_all nw_all mf_X4_init (c_X4_init l D cs _ _ q22 0 0 0 0 0 0 f_q22) nm_56 wm_57 rfl hF hS rfl ((⟨⟨Nat.le_of_ble_eq_true rfl, Nat.le_of_ble_eq_true rfl⟩, Nat.le_of_ble_eq_true rfl, Nat.le_of_ble_eq_true rfl⟩)) rfl hl.1 rfl (Nat.le_of_ble_eq_true rfl) dX8_init_64 (fun v u24 H locs hp hF hS hz1 hk1 hd1 => ?_)
  obtain ⟨hv1, hw1⟩ := hp
  subst hv1
  rw [hw1] at hF
  clear hw1 hd1 hk1
  have hF : fw_P D cls10 A (va_up u23 q22 (some (.inr (4, [.int 0, .int 0, .int 0, .int (-1), .int 0, .long 0])))) H := hF
  obtain ⟨u25, hu25⟩ : ∃ y : fW, y = va_up u23 q22 (some (.inr (4, [.int 0, .int 0, .int 0, .int (-1), .int 0, .long 0]))) := ⟨_, rfl⟩
  rw [← hu25] at hF
  replace f_q1 : u25 q1 = some (.inl (cs 2, 4, .inr (.inr (.inr (.inr (fun _ => none)))))) := by rw [hu25]; exact (va_up_ne _ _ (Nat.ne_of_lt l_q1_q22)).trans f_q1
  replace f_q4 : u25 q4 = some (.inl (cs 3, 4, .inr (.inr (.inr (.inr (fun _ => none)))))) := by rw [hu25]; exact (va_up_ne _ _ (Nat.ne_of_lt l_q4_q22)).trans f_q4
  replace f_q7 : u25 q7 = some (.inl (cs 4, 4, .inr (.inr (.inr (.inr (fun _ => none)))))) := by rw [hu25]; exact (va_up_ne _ _ (Nat.ne_of_lt l_q7_q22)).trans f_q7
  replace f_q10 : u25 q10 = some (.inl (cs 5, 4, .inr (.inr (.inr (.inr (fun _ => none)))))) := by rw [hu25]; exact (va_up_ne _ _ (Nat.ne_of_lt l_q10_q22)).trans f_q10
  replace f_q13 : u25 q13 = some (.inl (cs 6, 4, .inr (.inr (.inr (.inr (fun _ => none)))))) := by rw [hu25]; exact (va_up_ne _ _ (Nat.ne_of_lt l_q13_q22)).trans f_q13
  replace f_q16 : u25 q16 = some (.inl (cs 0, 4, .inl (fun _ => 0))) := by rw [hu25]; exact (va_up_ne _ _ (Nat.ne_of_lt l_q16_q22)).trans f_q16
  replace f_q19 : u25 q19 = some (.inl (cs 0, 8, .inl (fun _ => 0))) := by rw [hu25]; exact (va_up_ne _ _ (Nat.ne_of_lt l_q19_q22)).trans f_q19
  replace f_h0 : u25 h0 = some (.inr (8, [.ref q1, .ref q4, .ref q7, .ref q10, .ref q13, .ref q16, .ref q19, .null])) := by rw [hu25]; exact (va_up_ne _ _ (Nat.ne_of_lt l_h0_q22)).trans f_h0
  replace f_q22 : u25 q22 = some (.inr (4, [.int 0, .int 0, .int 0, .int (-1), .int 0, .long 0])) := by rw [hu25]; exact va_up_self _ _ _
  refine W.eq (g2 := F0 m 67 ls [.ref q22, .ref h0]) rfl ?_
  refine fw_putF X gC_ok hF hS f_h0 rfl 7 (by decide) wm_183 rfl hnm rfl (tf := .object "CycleShop$Report") (by decide +kernel) rfl rfl (Nat.le_of_ble_eq_true rfl) dX8_init_67 (fun H locs hF hS => ?_)
  have hF : fw_P D cls10 A (va_up u25 h0 (some (.inr (8, [.ref q1, .ref q4, .ref q7, .ref q10, .ref q13, .ref q16, .ref q19, .ref q22])))) H := hF
  obtain ⟨u26, hu26⟩ : ∃ y : fW, y = va_up u25 h0 (some (.inr (8, [.ref q1, .ref q4, .ref q7, .ref q10, .ref q13, .ref q16, .ref q19, .ref q22]))) := ⟨_, rfl⟩
  rw [← hu26] at hF
  replace f_q1 : u26 q1 = some (.inl (cs 2, 4, .inr (.inr (.inr (.inr (fun _ => none)))))) := by rw [hu26]; exact (va_up_ne _ _ (Nat.ne_of_gt l_h0_q1)).trans f_q1
  replace f_q4 : u26 q4 = some (.inl (cs 3, 4, .inr (.inr (.inr (.inr (fun _ => none)))))) := by rw [hu26]; exact (va_up_ne _ _ (Nat.ne_of_gt l_h0_q4)).trans f_q4
  replace f_q7 : u26 q7 = some (.inl (cs 4, 4, .inr (.inr (.inr (.inr (fun _ => none)))))) := by rw [hu26]; exact (va_up_ne _ _ (Nat.ne_of_gt l_h0_q7)).trans f_q7
  replace f_q10 : u26 q10 = some (.inl (cs 5, 4, .inr (.inr (.inr (.inr (fun _ => none)))))) := by rw [hu26]; exact (va_up_ne _ _ (Nat.ne_of_gt l_h0_q10)).trans f_q10
  replace f_q13 : u26 q13 = some (.inl (cs 6, 4, .inr (.inr (.inr (.inr (fun _ => none)))))) := by rw [hu26]; exact (va_up_ne _ _ (Nat.ne_of_gt l_h0_q13)).trans f_q13
  replace f_q16 : u26 q16 = some (.inl (cs 0, 4, .inl (fun _ => 0))) := by rw [hu26]; exact (va_up_ne _ _ (Nat.ne_of_gt l_h0_q16)).trans f_q16
  replace f_q19 : u26 q19 = some (.inl (cs 0, 8, .inl (fun _ => 0))) := by rw [hu26]; exact (va_up_ne _ _ (Nat.ne_of_gt l_h0_q19)).trans f_q19
  replace f_q22 : u26 q22 = some (.inr (4, [.int 0, .int 0, .int 0, .int (-1), .int 0, .long 0])) := by rw [hu26]; exact (va_up_ne _ _ (Nat.ne_of_gt l_h0_q22)).trans f_q22
  replace f_h0 : u26 h0 = some (.inr (8, [.ref q1, .ref q4, .ref q7, .ref q10, .ref q13, .ref q16, .ref q19, .ref q22])) := by rw [hu26]; exact va_up_self _ _ _
  refine lv_iconst (v := 0) hx hb dX8_init_70 (by decide) ?_
  refine lv_istore_n (lv' := [(1, .int 0), (0, .ref h0)]) hx hb dX8_init_71 rfl hl (by decide) rfl (fun ls hl => ?_)
  refine lv_iload_n hx hb dX8_init_72 rfl (lv_at hl 0 rfl) ?_
  refine lv_iconst (v := 4) hx hb dX8_init_73 (by decide) ?_
  refine lv_icmp_ge (tgt := 155) hx hb dX8_init_74 (by decide) (fun h => absurd h (by decide)) (fun _ => ?_)
  refine lv_aload_n hx hb dX8_init_77 rfl (lv_at hl 1 rfl) ?_
  refine fw_get X gC_ok hF f_h0 rfl 0 (by decide) wm_176 rfl dX8_init_78 ?_
  refine lv_iload_n hx hb dX8_init_81 rfl (lv_at hl 0 rfl) ?_
  have m_q1 := hF.lt f_q1
  have m_q4 := hF.lt f_q4
  have m_q7 := hF.lt f_q7
  have m_q10 := hF.lt f_q10
  have m_q13 := hF.lt f_q13
  have m_q16 := hF.lt f_q16
  have m_q19 := hF.lt f_q19
  have m_q22 := hF.lt f_q22
  have m_h0 := hF.lt f_h0
  refine fw_new (ci := 5) (fs := [.int 0, .int 0, .null, .null, .int 0, .int 0]) X gC_ok hF hS rfl tyX5 tyX5_ok (by decide +kernel) wm_44 wm_86 wm_27 (Nat.le_of_ble_eq_true rfl) (Nat.le_of_ble_eq_true rfl) dX8_init_82 (fun q28 H nq28 zq28 zzq28 hF hS => ?_)
  have l_q1_q28 : q1 < q28 := Nat.lt_of_lt_of_le m_q1 (Nat.le_of_eq zq28.symm)
  have l_q4_q28 : q4 < q28 := Nat.lt_of_lt_of_le m_q4 (Nat.le_of_eq zq28.symm)
  have l_q7_q28 : q7 < q28 := Nat.lt_of_lt_of_le m_q7 (Nat.le_of_eq zq28.symm)
  have l_q10_q28 : q10 < q28 := Nat.lt_of_lt_of_le m_q10 (Nat.le_of_eq zq28.symm)
  have l_q13_q28 : q13 < q28 := Nat.lt_of_lt_of_le m_q13 (Nat.le_of_eq zq28.symm)
  have l_q16_q28 : q16 < q28 := Nat.lt_of_lt_of_le m_q16 (Nat.le_of_eq zq28.symm)
  have l_q19_q28 : q19 < q28 := Nat.lt_of_lt_of_le m_q19 (Nat.le_of_eq zq28.symm)
  have l_q22_q28 : q22 < q28 := Nat.lt_of_lt_of_le m_q22 (Nat.le_of_eq zq28.symm)
  have l_h0_q28 : h0 < q28 := Nat.lt_of_lt_of_le m_h0 (Nat.le_of_eq zq28.symm)
  clear m_q1 m_q4 m_q7 m_q10 m_q13 m_q16 m_q19 m_q22 m_h0
  have hF : fw_P D cls10 A (va_up u26 q28 (some (.inr (5, [.int 0, .int 0, .null, .null, .int 0, .int 0])))) H := hF
  obtain ⟨u29, hu29⟩ : ∃ y : fW, y = va_up u26 q28 (some (.inr (5, [.int 0, .int 0, .null, .null, .int 0, .int 0]))) := ⟨_, rfl⟩
  rw [← hu29] at hF
  replace f_q1 : u29 q1 = some (.inl (cs 2, 4, .inr (.inr (.inr (.inr (fun _ => none)))))) := by rw [hu29]; exact (va_up_ne _ _ (Nat.ne_of_lt l_q1_q28)).trans f_q1
  replace f_q4 : u29 q4 = some (.inl (cs 3, 4, .inr (.inr (.inr (.inr (fun _ => none)))))) := by rw [hu29]; exact (va_up_ne _ _ (Nat.ne_of_lt l_q4_q28)).trans f_q4
  replace f_q7 : u29 q7 = some (.inl (cs 4, 4, .inr (.inr (.inr (.inr (fun _ => none)))))) := by rw [hu29]; exact (va_up_ne _ _ (Nat.ne_of_lt l_q7_q28)).trans f_q7
  replace f_q10 : u29 q10 = some (.inl (cs 5, 4, .inr (.inr (.inr (.inr (fun _ => none)))))) := by rw [hu29]; exact (va_up_ne _ _ (Nat.ne_of_lt l_q10_q28)).trans f_q10
  replace f_q13 : u29 q13 = some (.inl (cs 6, 4, .inr (.inr (.inr (.inr (fun _ => none)))))) := by rw [hu29]; exact (va_up_ne _ _ (Nat.ne_of_lt l_q13_q28)).trans f_q13
  replace f_q16 : u29 q16 = some (.inl (cs 0, 4, .inl (fun _ => 0))) := by rw [hu29]; exact (va_up_ne _ _ (Nat.ne_of_lt l_q16_q28)).trans f_q16
  replace f_q19 : u29 q19 = some (.inl (cs 0, 8, .inl (fun _ => 0))) := by rw [hu29]; exact (va_up_ne _ _ (Nat.ne_of_lt l_q19_q28)).trans f_q19
  replace f_q22 : u29 q22 = some (.inr (4, [.int 0, .int 0, .int 0, .int (-1), .int 0, .long 0])) := by rw [hu29]; exact (va_up_ne _ _ (Nat.ne_of_lt l_q22_q28)).trans f_q22
  replace f_h0 : u29 h0 = some (.inr (8, [.ref q1, .ref q4, .ref q7, .ref q10, .ref q13, .ref q16, .ref q19, .ref q22])) := by rw [hu29]; exact (va_up_ne _ _ (Nat.ne_of_lt l_h0_q28)).trans f_h0
  have f_q28 : u29 q28 = some (.inr (5, [.int 0, .int 0, .null, .null, .int 0, .int 0])) := by rw [hu29]; exact va_up_self _ _ _
  refine lv_dup hx hb dX8_init_85 rfl ?_
  refine fw_callIN (As := []) (rest := [.ref q28, .int 0, .ref q1]) X bs_all nw_all mf_X5_init (c_X5_init l D cs _ _ q28 false 0 none none 0 0 f_q28) nm_87 wm_88 rfl hF hS rfl ((⟨⟨Nat.le_of_ble_eq_true rfl, Nat.le_of_ble_eq_true rfl⟩, Nat.le_of_ble_eq_true rfl, Nat.le_of_ble_eq_true rfl⟩)) rfl hl.1 rfl (Nat.le_of_ble_eq_true rfl) dX8_init_86 (fun v u30 H locs hp hF hS hz1 hk1 hd1 => ?_)
  obtain ⟨hv1, hw1⟩ := hp
  subst hv1
  rw [hw1] at hF
  clear hw1 hd1 hk1
  refine W.eq (g2 := F0 m 89 ls [.ref q28, .int 0, .ref q1]) rfl ?_
  refine fw_astq X hF hS f_q1 2 rfl f_q28 rfl (vp_in_iff.mpr (by decide)) dX8_init_89 (fun H locs hF hS => ?_)
  have hF : fw_P D cls10 A (va_up u29 q1 (some (.inl (cs 2, 4, .inr (.inr (.inr (.inr (va_up (fun _ => none) 0 (some q28))))))))) H := hF
  obtain ⟨u31, hu31⟩ : ∃ y : fW, y = va_up u29 q1 (some (.inl (cs 2, 4, .inr (.inr (.inr (.inr (va_up (fun _ => none) 0 (some q28)))))))) := ⟨_, rfl⟩
  rw [← hu31] at hF
  replace f_q4 : u31 q4 = some (.inl (cs 3, 4, .inr (.inr (.inr (.inr (fun _ => none)))))) := by rw [hu31]; exact (va_up_ne _ _ (Nat.ne_of_gt l_q1_q4)).trans f_q4
  replace f_q7 : u31 q7 = some (.inl (cs 4, 4, .inr (.inr (.inr (.inr (fun _ => none)))))) := by rw [hu31]; exact (va_up_ne _ _ (Nat.ne_of_gt l_q1_q7)).trans f_q7
  replace f_q10 : u31 q10 = some (.inl (cs 5, 4, .inr (.inr (.inr (.inr (fun _ => none)))))) := by rw [hu31]; exact (va_up_ne _ _ (Nat.ne_of_gt l_q1_q10)).trans f_q10
  replace f_q13 : u31 q13 = some (.inl (cs 6, 4, .inr (.inr (.inr (.inr (fun _ => none)))))) := by rw [hu31]; exact (va_up_ne _ _ (Nat.ne_of_gt l_q1_q13)).trans f_q13
  replace f_q16 : u31 q16 = some (.inl (cs 0, 4, .inl (fun _ => 0))) := by rw [hu31]; exact (va_up_ne _ _ (Nat.ne_of_gt l_q1_q16)).trans f_q16
  replace f_q19 : u31 q19 = some (.inl (cs 0, 8, .inl (fun _ => 0))) := by rw [hu31]; exact (va_up_ne _ _ (Nat.ne_of_gt l_q1_q19)).trans f_q19
  replace f_q22 : u31 q22 = some (.inr (4, [.int 0, .int 0, .int 0, .int (-1), .int 0, .long 0])) := by rw [hu31]; exact (va_up_ne _ _ (Nat.ne_of_gt l_q1_q22)).trans f_q22
  replace f_h0 : u31 h0 = some (.inr (8, [.ref q1, .ref q4, .ref q7, .ref q10, .ref q13, .ref q16, .ref q19, .ref q22])) := by rw [hu31]; exact (va_up_ne _ _ (Nat.ne_of_lt l_h0_q1)).trans f_h0
  replace f_q28 : u31 q28 = some (.inr (5, [.int 0, .int 0, .null, .null, .int 0, .int 0])) := by rw [hu31]; exact (va_up_ne _ _ (Nat.ne_of_gt l_q1_q28)).trans f_q28
  replace f_q1 : u31 q1 = some (.inl (cs 2, 4, .inr (.inr (.inr (.inr (va_up (fun _ => none) 0 (some q28))))))) := by rw [hu31]; exact va_up_self _ _ _
  refine lv_aload_n hx hb dX8_init_90 rfl (lv_at hl 1 rfl) ?_
  refine fw_get X gC_ok hF f_h0 rfl 1 (by decide) wm_177 rfl dX8_init_91 ?_
  refine lv_iload_n hx hb dX8_init_94 rfl (lv_at hl 0 rfl) ?_
  have m_q4 := hF.lt f_q4
  have m_q7 := hF.lt f_q7
  have m_q10 := hF.lt f_q10
  have m_q13 := hF.lt f_q13
  have m_q16 := hF.lt f_q16
  have m_q19 := hF.lt f_q19
  have m_q22 := hF.lt f_q22
  have m_h0 := hF.lt f_h0
  have m_q28 := hF.lt f_q28
  have m_q1 := hF.lt f_q1
  refine fw_new (ci := 0) (fs := [.null, .int 0]) X gC_ok hF hS rfl tyX0 tyX0_ok (by decide +kernel) wm_46 wm_114 wm_28 (Nat.le_of_ble_eq_true rfl) (Nat.le_of_ble_eq_true rfl) dX8_init_95 (fun q32 H nq32 zq32 zzq32 hF hS => ?_)
  have l_q4_q32 : q4 < q32 := Nat.lt_of_lt_of_le m_q4 (Nat.le_of_eq zq32.symm)
  have l_q7_q32 : q7 < q32 := Nat.lt_of_lt_of_le m_q7 (Nat.le_of_eq zq32.symm)
  have l_q10_q32 : q10 < q32 := Nat.lt_of_lt_of_le m_q10 (Nat.le_of_eq zq32.symm)
  have l_q13_q32 : q13 < q32 := Nat.lt_of_lt_of_le m_q13 (Nat.le_of_eq zq32.symm)
  have l_q16_q32 : q16 < q32 := Nat.lt_of_lt_of_le m_q16 (Nat.le_of_eq zq32.symm)
  have l_q19_q32 : q19 < q32 := Nat.lt_of_lt_of_le m_q19 (Nat.le_of_eq zq32.symm)
  have l_q22_q32 : q22 < q32 := Nat.lt_of_lt_of_le m_q22 (Nat.le_of_eq zq32.symm)
  have l_h0_q32 : h0 < q32 := Nat.lt_of_lt_of_le m_h0 (Nat.le_of_eq zq32.symm)
  have l_q28_q32 : q28 < q32 := Nat.lt_of_lt_of_le m_q28 (Nat.le_of_eq zq32.symm)
  have l_q1_q32 : q1 < q32 := Nat.lt_of_lt_of_le m_q1 (Nat.le_of_eq zq32.symm)
  clear m_q4 m_q7 m_q10 m_q13 m_q16 m_q19 m_q22 m_h0 m_q28 m_q1
  have hF : fw_P D cls10 A (va_up u31 q32 (some (.inr (0, [.null, .int 0])))) H := hF
  obtain ⟨u33, hu33⟩ : ∃ y : fW, y = va_up u31 q32 (some (.inr (0, [.null, .int 0]))) := ⟨_, rfl⟩
  rw [← hu33] at hF
  replace f_q4 : u33 q4 = some (.inl (cs 3, 4, .inr (.inr (.inr (.inr (fun _ => none)))))) := by rw [hu33]; exact (va_up_ne _ _ (Nat.ne_of_lt l_q4_q32)).trans f_q4
  replace f_q7 : u33 q7 = some (.inl (cs 4, 4, .inr (.inr (.inr (.inr (fun _ => none)))))) := by rw [hu33]; exact (va_up_ne _ _ (Nat.ne_of_lt l_q7_q32)).trans f_q7
  replace f_q10 : u33 q10 = some (.inl (cs 5, 4, .inr (.inr (.inr (.inr (fun _ => none)))))) := by rw [hu33]; exact (va_up_ne _ _ (Nat.ne_of_lt l_q10_q32)).trans f_q10
  replace f_q13 : u33 q13 = some (.inl (cs 6, 4, .inr (.inr (.inr (.inr (fun _ => none)))))) := by rw [hu33]; exact (va_up_ne _ _ (Nat.ne_of_lt l_q13_q32)).trans f_q13
  replace f_q16 : u33 q16 = some (.inl (cs 0, 4, .inl (fun _ => 0))) := by rw [hu33]; exact (va_up_ne _ _ (Nat.ne_of_lt l_q16_q32)).trans f_q16
  replace f_q19 : u33 q19 = some (.inl (cs 0, 8, .inl (fun _ => 0))) := by rw [hu33]; exact (va_up_ne _ _ (Nat.ne_of_lt l_q19_q32)).trans f_q19
  replace f_q22 : u33 q22 = some (.inr (4, [.int 0, .int 0, .int 0, .int (-1), .int 0, .long 0])) := by rw [hu33]; exact (va_up_ne _ _ (Nat.ne_of_lt l_q22_q32)).trans f_q22
  replace f_h0 : u33 h0 = some (.inr (8, [.ref q1, .ref q4, .ref q7, .ref q10, .ref q13, .ref q16, .ref q19, .ref q22])) := by rw [hu33]; exact (va_up_ne _ _ (Nat.ne_of_lt l_h0_q32)).trans f_h0
  replace f_q28 : u33 q28 = some (.inr (5, [.int 0, .int 0, .null, .null, .int 0, .int 0])) := by rw [hu33]; exact (va_up_ne _ _ (Nat.ne_of_lt l_q28_q32)).trans f_q28
  replace f_q1 : u33 q1 = some (.inl (cs 2, 4, .inr (.inr (.inr (.inr (va_up (fun _ => none) 0 (some q28))))))) := by rw [hu33]; exact (va_up_ne _ _ (Nat.ne_of_lt l_q1_q32)).trans f_q1
  have f_q32 : u33 q32 = some (.inr (0, [.null, .int 0])) := by rw [hu33]; exact va_up_self _ _ _
  refine lv_dup hx hb dX8_init_98 rfl ?_
  have m_q4 := hF.lt f_q4
  have m_q7 := hF.lt f_q7
  have m_q10 := hF.lt f_q10
  have m_q13 := hF.lt f_q13
  have m_q16 := hF.lt f_q16
  have m_q19 := hF.lt f_q19
  have m_q22 := hF.lt f_q22
  have m_h0 := hF.lt f_h0
  have m_q28 := hF.lt f_q28
  have m_q1 := hF.lt f_q1
  have m_q32 := hF.lt f_q32
  refine fw_callIN (As := []) (rest := [.ref q32, .int 0, .ref q4]) X bs_all nw_all mf_X0_init (c_X0_init l D cs _ _ q32 f_q32) nm_115 wm_116 rfl hF hS rfl ((⟨⟨Nat.le_of_ble_eq_true rfl, Nat.le_of_ble_eq_true rfl⟩, Nat.le_of_ble_eq_true rfl, Nat.le_of_ble_eq_true rfl⟩)) rfl hl.1 rfl (Nat.le_of_ble_eq_true rfl) dX8_init_99 (fun v u34 H locs hp hF hS hz1 hk1 hd1 => ?_)
  obtain ⟨hv1, q35, nq35, hw1⟩ := hp
  subst hv1
  have leq35 := (hd1 q35 (by rw [hw1, va_up_ne _ _ (Ne.symm (gx_ne f_q32 nq35)), va_up_self]; exact fun z => by cases z)).resolve_left (fun z => z nq35)
  have l_q4_q35 : q4 < q35 := Nat.lt_of_lt_of_le m_q4 leq35
  have l_q7_q35 : q7 < q35 := Nat.lt_of_lt_of_le m_q7 leq35
  have l_q10_q35 : q10 < q35 := Nat.lt_of_lt_of_le m_q10 leq35
  have l_q13_q35 : q13 < q35 := Nat.lt_of_lt_of_le m_q13 leq35
  have l_q16_q35 : q16 < q35 := Nat.lt_of_lt_of_le m_q16 leq35
  have l_q19_q35 : q19 < q35 := Nat.lt_of_lt_of_le m_q19 leq35
  have l_q22_q35 : q22 < q35 := Nat.lt_of_lt_of_le m_q22 leq35
  have l_h0_q35 : h0 < q35 := Nat.lt_of_lt_of_le m_h0 leq35
  have l_q28_q35 : q28 < q35 := Nat.lt_of_lt_of_le m_q28 leq35
  have l_q1_q35 : q1 < q35 := Nat.lt_of_lt_of_le m_q1 leq35
  have l_q32_q35 : q32 < q35 := Nat.lt_of_lt_of_le m_q32 leq35
  clear m_q4 m_q7 m_q10 m_q13 m_q16 m_q19 m_q22 m_h0 m_q28 m_q1 m_q32
  rw [hw1] at hF
  clear hw1 hd1 hk1
  obtain ⟨u36, hu36⟩ : ∃ y : fW, y = va_up u33 q35 (some (.inl (cs 0, 12, .inl (fun _ => 0)))) := ⟨_, rfl⟩
  rw [← hu36] at hF
  replace f_q4 : u36 q4 = some (.inl (cs 3, 4, .inr (.inr (.inr (.inr (fun _ => none)))))) := by rw [hu36]; exact (va_up_ne _ _ (Nat.ne_of_lt l_q4_q35)).trans f_q4
  replace f_q7 : u36 q7 = some (.inl (cs 4, 4, .inr (.inr (.inr (.inr (fun _ => none)))))) := by rw [hu36]; exact (va_up_ne _ _ (Nat.ne_of_lt l_q7_q35)).trans f_q7
  replace f_q10 : u36 q10 = some (.inl (cs 5, 4, .inr (.inr (.inr (.inr (fun _ => none)))))) := by rw [hu36]; exact (va_up_ne _ _ (Nat.ne_of_lt l_q10_q35)).trans f_q10
  replace f_q13 : u36 q13 = some (.inl (cs 6, 4, .inr (.inr (.inr (.inr (fun _ => none)))))) := by rw [hu36]; exact (va_up_ne _ _ (Nat.ne_of_lt l_q13_q35)).trans f_q13
  replace f_q16 : u36 q16 = some (.inl (cs 0, 4, .inl (fun _ => 0))) := by rw [hu36]; exact (va_up_ne _ _ (Nat.ne_of_lt l_q16_q35)).trans f_q16
  replace f_q19 : u36 q19 = some (.inl (cs 0, 8, .inl (fun _ => 0))) := by rw [hu36]; exact (va_up_ne _ _ (Nat.ne_of_lt l_q19_q35)).trans f_q19
  replace f_q22 : u36 q22 = some (.inr (4, [.int 0, .int 0, .int 0, .int (-1), .int 0, .long 0])) := by rw [hu36]; exact (va_up_ne _ _ (Nat.ne_of_lt l_q22_q35)).trans f_q22
  replace f_h0 : u36 h0 = some (.inr (8, [.ref q1, .ref q4, .ref q7, .ref q10, .ref q13, .ref q16, .ref q19, .ref q22])) := by rw [hu36]; exact (va_up_ne _ _ (Nat.ne_of_lt l_h0_q35)).trans f_h0
  replace f_q28 : u36 q28 = some (.inr (5, [.int 0, .int 0, .null, .null, .int 0, .int 0])) := by rw [hu36]; exact (va_up_ne _ _ (Nat.ne_of_lt l_q28_q35)).trans f_q28
  replace f_q1 : u36 q1 = some (.inl (cs 2, 4, .inr (.inr (.inr (.inr (va_up (fun _ => none) 0 (some q28))))))) := by rw [hu36]; exact (va_up_ne _ _ (Nat.ne_of_lt l_q1_q35)).trans f_q1
  replace f_q32 : u36 q32 = some (.inr (0, [.null, .int 0])) := by rw [hu36]; exact (va_up_ne _ _ (Nat.ne_of_lt l_q32_q35)).trans f_q32
  have f_q35 : u36 q35 = some (.inl (cs 0, 12, .inl (fun _ => 0))) := by rw [hu36]; exact va_up_self _ _ _
  obtain ⟨u37, hu37⟩ : ∃ y : fW, y = va_up u36 q32 (some (.inr (0, [.ref q35, .int (-1)]))) := ⟨_, rfl⟩
  rw [← hu37] at hF
  replace f_q4 : u37 q4 = some (.inl (cs 3, 4, .inr (.inr (.inr (.inr (fun _ => none)))))) := by rw [hu37]; exact (va_up_ne _ _ (Nat.ne_of_lt l_q4_q32)).trans f_q4
  replace f_q7 : u37 q7 = some (.inl (cs 4, 4, .inr (.inr (.inr (.inr (fun _ => none)))))) := by rw [hu37]; exact (va_up_ne _ _ (Nat.ne_of_lt l_q7_q32)).trans f_q7
  replace f_q10 : u37 q10 = some (.inl (cs 5, 4, .inr (.inr (.inr (.inr (fun _ => none)))))) := by rw [hu37]; exact (va_up_ne _ _ (Nat.ne_of_lt l_q10_q32)).trans f_q10
  replace f_q13 : u37 q13 = some (.inl (cs 6, 4, .inr (.inr (.inr (.inr (fun _ => none)))))) := by rw [hu37]; exact (va_up_ne _ _ (Nat.ne_of_lt l_q13_q32)).trans f_q13
  replace f_q16 : u37 q16 = some (.inl (cs 0, 4, .inl (fun _ => 0))) := by rw [hu37]; exact (va_up_ne _ _ (Nat.ne_of_lt l_q16_q32)).trans f_q16
  replace f_q19 : u37 q19 = some (.inl (cs 0, 8, .inl (fun _ => 0))) := by rw [hu37]; exact (va_up_ne _ _ (Nat.ne_of_lt l_q19_q32)).trans f_q19
  replace f_q22 : u37 q22 = some (.inr (4, [.int 0, .int 0, .int 0, .int (-1), .int 0, .long 0])) := by rw [hu37]; exact (va_up_ne _ _ (Nat.ne_of_lt l_q22_q32)).trans f_q22
  replace f_h0 : u37 h0 = some (.inr (8, [.ref q1, .ref q4, .ref q7, .ref q10, .ref q13, .ref q16, .ref q19, .ref q22])) := by rw [hu37]; exact (va_up_ne _ _ (Nat.ne_of_lt l_h0_q32)).trans f_h0
  replace f_q28 : u37 q28 = some (.inr (5, [.int 0, .int 0, .null, .null, .int 0, .int 0])) := by rw [hu37]; exact (va_up_ne _ _ (Nat.ne_of_lt l_q28_q32)).trans f_q28
  replace f_q1 : u37 q1 = some (.inl (cs 2, 4, .inr (.inr (.inr (.inr (va_up (fun _ => none) 0 (some q28))))))) := by rw [hu37]; exact (va_up_ne _ _ (Nat.ne_of_lt l_q1_q32)).trans f_q1
  replace f_q35 : u37 q35 = some (.inl (cs 0, 12, .inl (fun _ => 0))) := by rw [hu37]; exact (va_up_ne _ _ (Nat.ne_of_gt l_q32_q35)).trans f_q35
  replace f_q32 : u37 q32 = some (.inr (0, [.ref q35, .int (-1)])) := by rw [hu37]; exact va_up_self _ _ _
  refine W.eq (g2 := F0 m 102 ls [.ref q32, .int 0, .ref q4]) rfl ?_
  refine fw_astq X hF hS f_q4 3 rfl f_q32 rfl (vp_in_iff.mpr (by decide)) dX8_init_102 (fun H locs hF hS => ?_)
  have hF : fw_P D cls10 A (va_up u37 q4 (some (.inl (cs 3, 4, .inr (.inr (.inr (.inr (va_up (fun _ => none) 0 (some q32))))))))) H := hF
  obtain ⟨u38, hu38⟩ : ∃ y : fW, y = va_up u37 q4 (some (.inl (cs 3, 4, .inr (.inr (.inr (.inr (va_up (fun _ => none) 0 (some q32)))))))) := ⟨_, rfl⟩
  rw [← hu38] at hF
  replace f_q7 : u38 q7 = some (.inl (cs 4, 4, .inr (.inr (.inr (.inr (fun _ => none)))))) := by rw [hu38]; exact (va_up_ne _ _ (Nat.ne_of_gt l_q4_q7)).trans f_q7
  replace f_q10 : u38 q10 = some (.inl (cs 5, 4, .inr (.inr (.inr (.inr (fun _ => none)))))) := by rw [hu38]; exact (va_up_ne _ _ (Nat.ne_of_gt l_q4_q10)).trans f_q10
  replace f_q13 : u38 q13 = some (.inl (cs 6, 4, .inr (.inr (.inr (.inr (fun _ => none)))))) := by rw [hu38]; exact (va_up_ne _ _ (Nat.ne_of_gt l_q4_q13)).trans f_q13
  replace f_q16 : u38 q16 = some (.inl (cs 0, 4, .inl (fun _ => 0))) := by rw [hu38]; exact (va_up_ne _ _ (Nat.ne_of_gt l_q4_q16)).trans f_q16
  replace f_q19 : u38 q19 = some (.inl (cs 0, 8, .inl (fun _ => 0))) := by rw [hu38]; exact (va_up_ne _ _ (Nat.ne_of_gt l_q4_q19)).trans f_q19
  replace f_q22 : u38 q22 = some (.inr (4, [.int 0, .int 0, .int 0, .int (-1), .int 0, .long 0])) := by rw [hu38]; exact (va_up_ne _ _ (Nat.ne_of_gt l_q4_q22)).trans f_q22
  replace f_h0 : u38 h0 = some (.inr (8, [.ref q1, .ref q4, .ref q7, .ref q10, .ref q13, .ref q16, .ref q19, .ref q22])) := by rw [hu38]; exact (va_up_ne _ _ (Nat.ne_of_lt l_h0_q4)).trans f_h0
  replace f_q28 : u38 q28 = some (.inr (5, [.int 0, .int 0, .null, .null, .int 0, .int 0])) := by rw [hu38]; exact (va_up_ne _ _ (Nat.ne_of_gt l_q4_q28)).trans f_q28
  replace f_q1 : u38 q1 = some (.inl (cs 2, 4, .inr (.inr (.inr (.inr (va_up (fun _ => none) 0 (some q28))))))) := by rw [hu38]; exact (va_up_ne _ _ (Nat.ne_of_lt l_q1_q4)).trans f_q1
  replace f_q35 : u38 q35 = some (.inl (cs 0, 12, .inl (fun _ => 0))) := by rw [hu38]; exact (va_up_ne _ _ (Nat.ne_of_gt l_q4_q35)).trans f_q35
  replace f_q32 : u38 q32 = some (.inr (0, [.ref q35, .int (-1)])) := by rw [hu38]; exact (va_up_ne _ _ (Nat.ne_of_gt l_q4_q32)).trans f_q32
  replace f_q4 : u38 q4 = some (.inl (cs 3, 4, .inr (.inr (.inr (.inr (va_up (fun _ => none) 0 (some q32))))))) := by rw [hu38]; exact va_up_self _ _ _
  refine lv_aload_n hx hb dX8_init_103 rfl (lv_at hl 1 rfl) ?_
  refine fw_get X gC_ok hF f_h0 rfl 2 (by decide) wm_178 rfl dX8_init_104 ?_
  refine lv_iload_n hx hb dX8_init_107 rfl (lv_at hl 0 rfl) ?_
  have m_q7 := hF.lt f_q7
  have m_q10 := hF.lt f_q10
  have m_q13 := hF.lt f_q13
  have m_q16 := hF.lt f_q16
  have m_q19 := hF.lt f_q19
  have m_q22 := hF.lt f_q22
  have m_h0 := hF.lt f_h0
  have m_q28 := hF.lt f_q28
  have m_q1 := hF.lt f_q1
  have m_q35 := hF.lt f_q35
  have m_q32 := hF.lt f_q32
  have m_q4 := hF.lt f_q4
  refine fw_new (ci := 3) (fs := [.null, .int 0, .int 0]) X gC_ok hF hS rfl tyX3 tyX3_ok (by decide +kernel) wm_48 wm_127 wm_29 (Nat.le_of_ble_eq_true rfl) (Nat.le_of_ble_eq_true rfl) dX8_init_108 (fun q39 H nq39 zq39 zzq39 hF hS => ?_)
  have l_q7_q39 : q7 < q39 := Nat.lt_of_lt_of_le m_q7 (Nat.le_of_eq zq39.symm)
  have l_q10_q39 : q10 < q39 := Nat.lt_of_lt_of_le m_q10 (Nat.le_of_eq zq39.symm)
  have l_q13_q39 : q13 < q39 := Nat.lt_of_lt_of_le m_q13 (Nat.le_of_eq zq39.symm)
  have l_q16_q39 : q16 < q39 := Nat.lt_of_lt_of_le m_q16 (Nat.le_of_eq zq39.symm)
  have l_q19_q39 : q19 < q39 := Nat.lt_of_lt_of_le m_q19 (Nat.le_of_eq zq39.symm)
  have l_q22_q39 : q22 < q39 := Nat.lt_of_lt_of_le m_q22 (Nat.le_of_eq zq39.symm)
  have l_h0_q39 : h0 < q39 := Nat.lt_of_lt_of_le m_h0 (Nat.le_of_eq zq39.symm)
  have l_q28_q39 : q28 < q39 := Nat.lt_of_lt_of_le m_q28 (Nat.le_of_eq zq39.symm)
  have l_q1_q39 : q1 < q39 := Nat.lt_of_lt_of_le m_q1 (Nat.le_of_eq zq39.symm)
  have l_q35_q39 : q35 < q39 := Nat.lt_of_lt_of_le m_q35 (Nat.le_of_eq zq39.symm)
  have l_q32_q39 : q32 < q39 := Nat.lt_of_lt_of_le m_q32 (Nat.le_of_eq zq39.symm)
  have l_q4_q39 : q4 < q39 := Nat.lt_of_lt_of_le m_q4 (Nat.le_of_eq zq39.symm)
  clear m_q7 m_q10 m_q13 m_q16 m_q19 m_q22 m_h0 m_q28 m_q1 m_q35 m_q32 m_q4
  have hF : fw_P D cls10 A (va_up u38 q39 (some (.inr (3, [.null, .int 0, .int 0])))) H := hF
  obtain ⟨u40, hu40⟩ : ∃ y : fW, y = va_up u38 q39 (some (.inr (3, [.null, .int 0, .int 0]))) := ⟨_, rfl⟩
  rw [← hu40] at hF
  replace f_q7 : u40 q7 = some (.inl (cs 4, 4, .inr (.inr (.inr (.inr (fun _ => none)))))) := by rw [hu40]; exact (va_up_ne _ _ (Nat.ne_of_lt l_q7_q39)).trans f_q7
  replace f_q10 : u40 q10 = some (.inl (cs 5, 4, .inr (.inr (.inr (.inr (fun _ => none)))))) := by rw [hu40]; exact (va_up_ne _ _ (Nat.ne_of_lt l_q10_q39)).trans f_q10
  replace f_q13 : u40 q13 = some (.inl (cs 6, 4, .inr (.inr (.inr (.inr (fun _ => none)))))) := by rw [hu40]; exact (va_up_ne _ _ (Nat.ne_of_lt l_q13_q39)).trans f_q13
  replace f_q16 : u40 q16 = some (.inl (cs 0, 4, .inl (fun _ => 0))) := by rw [hu40]; exact (va_up_ne _ _ (Nat.ne_of_lt l_q16_q39)).trans f_q16
  replace f_q19 : u40 q19 = some (.inl (cs 0, 8, .inl (fun _ => 0))) := by rw [hu40]; exact (va_up_ne _ _ (Nat.ne_of_lt l_q19_q39)).trans f_q19
  replace f_q22 : u40 q22 = some (.inr (4, [.int 0, .int 0, .int 0, .int (-1), .int 0, .long 0])) := by rw [hu40]; exact (va_up_ne _ _ (Nat.ne_of_lt l_q22_q39)).trans f_q22
  replace f_h0 : u40 h0 = some (.inr (8, [.ref q1, .ref q4, .ref q7, .ref q10, .ref q13, .ref q16, .ref q19, .ref q22])) := by rw [hu40]; exact (va_up_ne _ _ (Nat.ne_of_lt l_h0_q39)).trans f_h0
  replace f_q28 : u40 q28 = some (.inr (5, [.int 0, .int 0, .null, .null, .int 0, .int 0])) := by rw [hu40]; exact (va_up_ne _ _ (Nat.ne_of_lt l_q28_q39)).trans f_q28
  replace f_q1 : u40 q1 = some (.inl (cs 2, 4, .inr (.inr (.inr (.inr (va_up (fun _ => none) 0 (some q28))))))) := by rw [hu40]; exact (va_up_ne _ _ (Nat.ne_of_lt l_q1_q39)).trans f_q1
  replace f_q35 : u40 q35 = some (.inl (cs 0, 12, .inl (fun _ => 0))) := by rw [hu40]; exact (va_up_ne _ _ (Nat.ne_of_lt l_q35_q39)).trans f_q35
  replace f_q32 : u40 q32 = some (.inr (0, [.ref q35, .int (-1)])) := by rw [hu40]; exact (va_up_ne _ _ (Nat.ne_of_lt l_q32_q39)).trans f_q32
  replace f_q4 : u40 q4 = some (.inl (cs 3, 4, .inr (.inr (.inr (.inr (va_up (fun _ => none) 0 (some q32))))))) := by rw [hu40]; exact (va_up_ne _ _ (Nat.ne_of_lt l_q4_q39)).trans f_q4
  have f_q39 : u40 q39 = some (.inr (3, [.null, .int 0, .int 0])) := by rw [hu40]; exact va_up_self _ _ _
  refine lv_dup hx hb dX8_init_111 rfl ?_
  have m_q7 := hF.lt f_q7
  have m_q10 := hF.lt f_q10
  have m_q13 := hF.lt f_q13
  have m_q16 := hF.lt f_q16
  have m_q19 := hF.lt f_q19
  have m_q22 := hF.lt f_q22
  have m_h0 := hF.lt f_h0
  have m_q28 := hF.lt f_q28
  have m_q1 := hF.lt f_q1
  have m_q35 := hF.lt f_q35
  have m_q32 := hF.lt f_q32
  have m_q4 := hF.lt f_q4
  have m_q39 := hF.lt f_q39
  refine fw_callIN (As := []) (rest := [.ref q39, .int 0, .ref q7]) X bs_all nw_all mf_X3_init (c_X3_init l D cs _ _ q39 f_q39) nm_128 wm_129 rfl hF hS rfl ((⟨⟨Nat.le_of_ble_eq_true rfl, Nat.le_of_ble_eq_true rfl⟩, Nat.le_of_ble_eq_true rfl, Nat.le_of_ble_eq_true rfl⟩)) rfl hl.1 rfl (Nat.le_of_ble_eq_true rfl) dX8_init_112 (fun v u41 H locs hp hF hS hz1 hk1 hd1 => ?_)
  obtain ⟨hv1, q42, nq42, hw1⟩ := hp
  subst hv1
  have leq42 := (hd1 q42 (by rw [hw1, va_up_ne _ _ (Ne.symm (gx_ne f_q39 nq42)), va_up_self]; exact fun z => by cases z)).resolve_left (fun z => z nq42)
  have l_q7_q42 : q7 < q42 := Nat.lt_of_lt_of_le m_q7 leq42
  have l_q10_q42 : q10 < q42 := Nat.lt_of_lt_of_le m_q10 leq42
  have l_q13_q42 : q13 < q42 := Nat.lt_of_lt_of_le m_q13 leq42
  have l_q16_q42 : q16 < q42 := Nat.lt_of_lt_of_le m_q16 leq42
  have l_q19_q42 : q19 < q42 := Nat.lt_of_lt_of_le m_q19 leq42
  have l_q22_q42 : q22 < q42 := Nat.lt_of_lt_of_le m_q22 leq42
  have l_h0_q42 : h0 < q42 := Nat.lt_of_lt_of_le m_h0 leq42
  have l_q28_q42 : q28 < q42 := Nat.lt_of_lt_of_le m_q28 leq42
  have l_q1_q42 : q1 < q42 := Nat.lt_of_lt_of_le m_q1 leq42
  have l_q35_q42 : q35 < q42 := Nat.lt_of_lt_of_le m_q35 leq42
  have l_q32_q42 : q32 < q42 := Nat.lt_of_lt_of_le m_q32 leq42
  have l_q4_q42 : q4 < q42 := Nat.lt_of_lt_of_le m_q4 leq42
  have l_q39_q42 : q39 < q42 := Nat.lt_of_lt_of_le m_q39 leq42
  clear m_q7 m_q10 m_q13 m_q16 m_q19 m_q22 m_h0 m_q28 m_q1 m_q35 m_q32 m_q4 m_q39
  rw [hw1] at hF
  clear hw1 hd1 hk1
  obtain ⟨u43, hu43⟩ : ∃ y : fW, y = va_up u40 q42 (some (.inl (cs 7, 12, .inr (.inr (.inr (.inr (fun _ => none))))))) := ⟨_, rfl⟩
  rw [← hu43] at hF
  replace f_q7 : u43 q7 = some (.inl (cs 4, 4, .inr (.inr (.inr (.inr (fun _ => none)))))) := by rw [hu43]; exact (va_up_ne _ _ (Nat.ne_of_lt l_q7_q42)).trans f_q7
  replace f_q10 : u43 q10 = some (.inl (cs 5, 4, .inr (.inr (.inr (.inr (fun _ => none)))))) := by rw [hu43]; exact (va_up_ne _ _ (Nat.ne_of_lt l_q10_q42)).trans f_q10
  replace f_q13 : u43 q13 = some (.inl (cs 6, 4, .inr (.inr (.inr (.inr (fun _ => none)))))) := by rw [hu43]; exact (va_up_ne _ _ (Nat.ne_of_lt l_q13_q42)).trans f_q13
  replace f_q16 : u43 q16 = some (.inl (cs 0, 4, .inl (fun _ => 0))) := by rw [hu43]; exact (va_up_ne _ _ (Nat.ne_of_lt l_q16_q42)).trans f_q16
  replace f_q19 : u43 q19 = some (.inl (cs 0, 8, .inl (fun _ => 0))) := by rw [hu43]; exact (va_up_ne _ _ (Nat.ne_of_lt l_q19_q42)).trans f_q19
  replace f_q22 : u43 q22 = some (.inr (4, [.int 0, .int 0, .int 0, .int (-1), .int 0, .long 0])) := by rw [hu43]; exact (va_up_ne _ _ (Nat.ne_of_lt l_q22_q42)).trans f_q22
  replace f_h0 : u43 h0 = some (.inr (8, [.ref q1, .ref q4, .ref q7, .ref q10, .ref q13, .ref q16, .ref q19, .ref q22])) := by rw [hu43]; exact (va_up_ne _ _ (Nat.ne_of_lt l_h0_q42)).trans f_h0
  replace f_q28 : u43 q28 = some (.inr (5, [.int 0, .int 0, .null, .null, .int 0, .int 0])) := by rw [hu43]; exact (va_up_ne _ _ (Nat.ne_of_lt l_q28_q42)).trans f_q28
  replace f_q1 : u43 q1 = some (.inl (cs 2, 4, .inr (.inr (.inr (.inr (va_up (fun _ => none) 0 (some q28))))))) := by rw [hu43]; exact (va_up_ne _ _ (Nat.ne_of_lt l_q1_q42)).trans f_q1
  replace f_q35 : u43 q35 = some (.inl (cs 0, 12, .inl (fun _ => 0))) := by rw [hu43]; exact (va_up_ne _ _ (Nat.ne_of_lt l_q35_q42)).trans f_q35
  replace f_q32 : u43 q32 = some (.inr (0, [.ref q35, .int (-1)])) := by rw [hu43]; exact (va_up_ne _ _ (Nat.ne_of_lt l_q32_q42)).trans f_q32
  replace f_q4 : u43 q4 = some (.inl (cs 3, 4, .inr (.inr (.inr (.inr (va_up (fun _ => none) 0 (some q32))))))) := by rw [hu43]; exact (va_up_ne _ _ (Nat.ne_of_lt l_q4_q42)).trans f_q4
  replace f_q39 : u43 q39 = some (.inr (3, [.null, .int 0, .int 0])) := by rw [hu43]; exact (va_up_ne _ _ (Nat.ne_of_lt l_q39_q42)).trans f_q39
  have f_q42 : u43 q42 = some (.inl (cs 7, 12, .inr (.inr (.inr (.inr (fun _ => none)))))) := by rw [hu43]; exact va_up_self _ _ _
  obtain ⟨u44, hu44⟩ : ∃ y : fW, y = va_up u43 q39 (some (.inr (3, [.ref q42, .int (-1), .int 0]))) := ⟨_, rfl⟩
  rw [← hu44] at hF
  replace f_q7 : u44 q7 = some (.inl (cs 4, 4, .inr (.inr (.inr (.inr (fun _ => none)))))) := by rw [hu44]; exact (va_up_ne _ _ (Nat.ne_of_lt l_q7_q39)).trans f_q7
  replace f_q10 : u44 q10 = some (.inl (cs 5, 4, .inr (.inr (.inr (.inr (fun _ => none)))))) := by rw [hu44]; exact (va_up_ne _ _ (Nat.ne_of_lt l_q10_q39)).trans f_q10
  replace f_q13 : u44 q13 = some (.inl (cs 6, 4, .inr (.inr (.inr (.inr (fun _ => none)))))) := by rw [hu44]; exact (va_up_ne _ _ (Nat.ne_of_lt l_q13_q39)).trans f_q13
  replace f_q16 : u44 q16 = some (.inl (cs 0, 4, .inl (fun _ => 0))) := by rw [hu44]; exact (va_up_ne _ _ (Nat.ne_of_lt l_q16_q39)).trans f_q16
  replace f_q19 : u44 q19 = some (.inl (cs 0, 8, .inl (fun _ => 0))) := by rw [hu44]; exact (va_up_ne _ _ (Nat.ne_of_lt l_q19_q39)).trans f_q19
  replace f_q22 : u44 q22 = some (.inr (4, [.int 0, .int 0, .int 0, .int (-1), .int 0, .long 0])) := by rw [hu44]; exact (va_up_ne _ _ (Nat.ne_of_lt l_q22_q39)).trans f_q22
  replace f_h0 : u44 h0 = some (.inr (8, [.ref q1, .ref q4, .ref q7, .ref q10, .ref q13, .ref q16, .ref q19, .ref q22])) := by rw [hu44]; exact (va_up_ne _ _ (Nat.ne_of_lt l_h0_q39)).trans f_h0
  replace f_q28 : u44 q28 = some (.inr (5, [.int 0, .int 0, .null, .null, .int 0, .int 0])) := by rw [hu44]; exact (va_up_ne _ _ (Nat.ne_of_lt l_q28_q39)).trans f_q28
  replace f_q1 : u44 q1 = some (.inl (cs 2, 4, .inr (.inr (.inr (.inr (va_up (fun _ => none) 0 (some q28))))))) := by rw [hu44]; exact (va_up_ne _ _ (Nat.ne_of_lt l_q1_q39)).trans f_q1
  replace f_q35 : u44 q35 = some (.inl (cs 0, 12, .inl (fun _ => 0))) := by rw [hu44]; exact (va_up_ne _ _ (Nat.ne_of_lt l_q35_q39)).trans f_q35
  replace f_q32 : u44 q32 = some (.inr (0, [.ref q35, .int (-1)])) := by rw [hu44]; exact (va_up_ne _ _ (Nat.ne_of_lt l_q32_q39)).trans f_q32
  replace f_q4 : u44 q4 = some (.inl (cs 3, 4, .inr (.inr (.inr (.inr (va_up (fun _ => none) 0 (some q32))))))) := by rw [hu44]; exact (va_up_ne _ _ (Nat.ne_of_lt l_q4_q39)).trans f_q4
  replace f_q42 : u44 q42 = some (.inl (cs 7, 12, .inr (.inr (.inr (.inr (fun _ => none)))))) := by rw [hu44]; exact (va_up_ne _ _ (Nat.ne_of_gt l_q39_q42)).trans f_q42
  replace f_q39 : u44 q39 = some (.inr (3, [.ref q42, .int (-1), .int 0])) := by rw [hu44]; exact va_up_self _ _ _
  refine W.eq (g2 := F0 m 115 ls [.ref q39, .int 0, .ref q7]) rfl ?_
  refine fw_astq X hF hS f_q7 4 rfl f_q39 rfl (vp_in_iff.mpr (by decide)) dX8_init_115 (fun H locs hF hS => ?_)
  have hF : fw_P D cls10 A (va_up u44 q7 (some (.inl (cs 4, 4, .inr (.inr (.inr (.inr (va_up (fun _ => none) 0 (some q39))))))))) H := hF
  obtain ⟨u45, hu45⟩ : ∃ y : fW, y = va_up u44 q7 (some (.inl (cs 4, 4, .inr (.inr (.inr (.inr (va_up (fun _ => none) 0 (some q39)))))))) := ⟨_, rfl⟩
  rw [← hu45] at hF
  replace f_q10 : u45 q10 = some (.inl (cs 5, 4, .inr (.inr (.inr (.inr (fun _ => none)))))) := by rw [hu45]; exact (va_up_ne _ _ (Nat.ne_of_gt l_q7_q10)).trans f_q10
  replace f_q13 : u45 q13 = some (.inl (cs 6, 4, .inr (.inr (.inr (.inr (fun _ => none)))))) := by rw [hu45]; exact (va_up_ne _ _ (Nat.ne_of_gt l_q7_q13)).trans f_q13
  replace f_q16 : u45 q16 = some (.inl (cs 0, 4, .inl (fun _ => 0))) := by rw [hu45]; exact (va_up_ne _ _ (Nat.ne_of_gt l_q7_q16)).trans f_q16
  replace f_q19 : u45 q19 = some (.inl (cs 0, 8, .inl (fun _ => 0))) := by rw [hu45]; exact (va_up_ne _ _ (Nat.ne_of_gt l_q7_q19)).trans f_q19
  replace f_q22 : u45 q22 = some (.inr (4, [.int 0, .int 0, .int 0, .int (-1), .int 0, .long 0])) := by rw [hu45]; exact (va_up_ne _ _ (Nat.ne_of_gt l_q7_q22)).trans f_q22
  replace f_h0 : u45 h0 = some (.inr (8, [.ref q1, .ref q4, .ref q7, .ref q10, .ref q13, .ref q16, .ref q19, .ref q22])) := by rw [hu45]; exact (va_up_ne _ _ (Nat.ne_of_lt l_h0_q7)).trans f_h0
  replace f_q28 : u45 q28 = some (.inr (5, [.int 0, .int 0, .null, .null, .int 0, .int 0])) := by rw [hu45]; exact (va_up_ne _ _ (Nat.ne_of_gt l_q7_q28)).trans f_q28
  replace f_q1 : u45 q1 = some (.inl (cs 2, 4, .inr (.inr (.inr (.inr (va_up (fun _ => none) 0 (some q28))))))) := by rw [hu45]; exact (va_up_ne _ _ (Nat.ne_of_lt l_q1_q7)).trans f_q1
  replace f_q35 : u45 q35 = some (.inl (cs 0, 12, .inl (fun _ => 0))) := by rw [hu45]; exact (va_up_ne _ _ (Nat.ne_of_gt l_q7_q35)).trans f_q35
  replace f_q32 : u45 q32 = some (.inr (0, [.ref q35, .int (-1)])) := by rw [hu45]; exact (va_up_ne _ _ (Nat.ne_of_gt l_q7_q32)).trans f_q32
  replace f_q4 : u45 q4 = some (.inl (cs 3, 4, .inr (.inr (.inr (.inr (va_up (fun _ => none) 0 (some q32))))))) := by rw [hu45]; exact (va_up_ne _ _ (Nat.ne_of_lt l_q4_q7)).trans f_q4
  replace f_q42 : u45 q42 = some (.inl (cs 7, 12, .inr (.inr (.inr (.inr (fun _ => none)))))) := by rw [hu45]; exact (va_up_ne _ _ (Nat.ne_of_gt l_q7_q42)).trans f_q42
  replace f_q39 : u45 q39 = some (.inr (3, [.ref q42, .int (-1), .int 0])) := by rw [hu45]; exact (va_up_ne _ _ (Nat.ne_of_gt l_q7_q39)).trans f_q39
  replace f_q7 : u45 q7 = some (.inl (cs 4, 4, .inr (.inr (.inr (.inr (va_up (fun _ => none) 0 (some q39))))))) := by rw [hu45]; exact va_up_self _ _ _
  refine lv_aload_n hx hb dX8_init_116 rfl (lv_at hl 1 rfl) ?_
  refine fw_get X gC_ok hF f_h0 rfl 3 (by decide) wm_179 rfl dX8_init_117 ?_
  refine lv_iload_n hx hb dX8_init_120 rfl (lv_at hl 0 rfl) ?_
  have m_q10 := hF.lt f_q10
  have m_q13 := hF.lt f_q13
  have m_q16 := hF.lt f_q16
  have m_q19 := hF.lt f_q19
  have m_q22 := hF.lt f_q22
  have m_h0 := hF.lt f_h0
  have m_q28 := hF.lt f_q28
  have m_q1 := hF.lt f_q1
  have m_q35 := hF.lt f_q35
  have m_q32 := hF.lt f_q32
  have m_q4 := hF.lt f_q4
  have m_q42 := hF.lt f_q42
  have m_q39 := hF.lt f_q39
  have m_q7 := hF.lt f_q7
  refine fw_new (ci := 1) (fs := [.null, .int 0, .int 0]) X gC_ok hF hS rfl tyX1 tyX1_ok (by decide +kernel) wm_50 wm_145 wm_30 (Nat.le_of_ble_eq_true rfl) (Nat.le_of_ble_eq_true rfl) dX8_init_121 (fun q46 H nq46 zq46 zzq46 hF hS => ?_)
  have l_q10_q46 : q10 < q46 := Nat.lt_of_lt_of_le m_q10 (Nat.le_of_eq zq46.symm)
  have l_q13_q46 : q13 < q46 := Nat.lt_of_lt_of_le m_q13 (Nat.le_of_eq zq46.symm)
  have l_q16_q46 : q16 < q46 := Nat.lt_of_lt_of_le m_q16 (Nat.le_of_eq zq46.symm)
  have l_q19_q46 : q19 < q46 := Nat.lt_of_lt_of_le m_q19 (Nat.le_of_eq zq46.symm)
  have l_q22_q46 : q22 < q46 := Nat.lt_of_lt_of_le m_q22 (Nat.le_of_eq zq46.symm)
  have l_h0_q46 : h0 < q46 := Nat.lt_of_lt_of_le m_h0 (Nat.le_of_eq zq46.symm)
  have l_q28_q46 : q28 < q46 := Nat.lt_of_lt_of_le m_q28 (Nat.le_of_eq zq46.symm)
  have l_q1_q46 : q1 < q46 := Nat.lt_of_lt_of_le m_q1 (Nat.le_of_eq zq46.symm)
  have l_q35_q46 : q35 < q46 := Nat.lt_of_lt_of_le m_q35 (Nat.le_of_eq zq46.symm)
  have l_q32_q46 : q32 < q46 := Nat.lt_of_lt_of_le m_q32 (Nat.le_of_eq zq46.symm)
  have l_q4_q46 : q4 < q46 := Nat.lt_of_lt_of_le m_q4 (Nat.le_of_eq zq46.symm)
  have l_q42_q46 : q42 < q46 := Nat.lt_of_lt_of_le m_q42 (Nat.le_of_eq zq46.symm)
  have l_q39_q46 : q39 < q46 := Nat.lt_of_lt_of_le m_q39 (Nat.le_of_eq zq46.symm)
  have l_q7_q46 : q7 < q46 := Nat.lt_of_lt_of_le m_q7 (Nat.le_of_eq zq46.symm)
  clear m_q10 m_q13 m_q16 m_q19 m_q22 m_h0 m_q28 m_q1 m_q35 m_q32 m_q4 m_q42 m_q39 m_q7
  have hF : fw_P D cls10 A (va_up u45 q46 (some (.inr (1, [.null, .int 0, .int 0])))) H := hF
  obtain ⟨u47, hu47⟩ : ∃ y : fW, y = va_up u45 q46 (some (.inr (1, [.null, .int 0, .int 0]))) := ⟨_, rfl⟩
  rw [← hu47] at hF
  replace f_q10 : u47 q10 = some (.inl (cs 5, 4, .inr (.inr (.inr (.inr (fun _ => none)))))) := by rw [hu47]; exact (va_up_ne _ _ (Nat.ne_of_lt l_q10_q46)).trans f_q10
  replace f_q13 : u47 q13 = some (.inl (cs 6, 4, .inr (.inr (.inr (.inr (fun _ => none)))))) := by rw [hu47]; exact (va_up_ne _ _ (Nat.ne_of_lt l_q13_q46)).trans f_q13
  replace f_q16 : u47 q16 = some (.inl (cs 0, 4, .inl (fun _ => 0))) := by rw [hu47]; exact (va_up_ne _ _ (Nat.ne_of_lt l_q16_q46)).trans f_q16
  replace f_q19 : u47 q19 = some (.inl (cs 0, 8, .inl (fun _ => 0))) := by rw [hu47]; exact (va_up_ne _ _ (Nat.ne_of_lt l_q19_q46)).trans f_q19
  replace f_q22 : u47 q22 = some (.inr (4, [.int 0, .int 0, .int 0, .int (-1), .int 0, .long 0])) := by rw [hu47]; exact (va_up_ne _ _ (Nat.ne_of_lt l_q22_q46)).trans f_q22
  replace f_h0 : u47 h0 = some (.inr (8, [.ref q1, .ref q4, .ref q7, .ref q10, .ref q13, .ref q16, .ref q19, .ref q22])) := by rw [hu47]; exact (va_up_ne _ _ (Nat.ne_of_lt l_h0_q46)).trans f_h0
  replace f_q28 : u47 q28 = some (.inr (5, [.int 0, .int 0, .null, .null, .int 0, .int 0])) := by rw [hu47]; exact (va_up_ne _ _ (Nat.ne_of_lt l_q28_q46)).trans f_q28
  replace f_q1 : u47 q1 = some (.inl (cs 2, 4, .inr (.inr (.inr (.inr (va_up (fun _ => none) 0 (some q28))))))) := by rw [hu47]; exact (va_up_ne _ _ (Nat.ne_of_lt l_q1_q46)).trans f_q1
  replace f_q35 : u47 q35 = some (.inl (cs 0, 12, .inl (fun _ => 0))) := by rw [hu47]; exact (va_up_ne _ _ (Nat.ne_of_lt l_q35_q46)).trans f_q35
  replace f_q32 : u47 q32 = some (.inr (0, [.ref q35, .int (-1)])) := by rw [hu47]; exact (va_up_ne _ _ (Nat.ne_of_lt l_q32_q46)).trans f_q32
  replace f_q4 : u47 q4 = some (.inl (cs 3, 4, .inr (.inr (.inr (.inr (va_up (fun _ => none) 0 (some q32))))))) := by rw [hu47]; exact (va_up_ne _ _ (Nat.ne_of_lt l_q4_q46)).trans f_q4
  replace f_q42 : u47 q42 = some (.inl (cs 7, 12, .inr (.inr (.inr (.inr (fun _ => none)))))) := by rw [hu47]; exact (va_up_ne _ _ (Nat.ne_of_lt l_q42_q46)).trans f_q42
  replace f_q39 : u47 q39 = some (.inr (3, [.ref q42, .int (-1), .int 0])) := by rw [hu47]; exact (va_up_ne _ _ (Nat.ne_of_lt l_q39_q46)).trans f_q39
  replace f_q7 : u47 q7 = some (.inl (cs 4, 4, .inr (.inr (.inr (.inr (va_up (fun _ => none) 0 (some q39))))))) := by rw [hu47]; exact (va_up_ne _ _ (Nat.ne_of_lt l_q7_q46)).trans f_q7
  have f_q46 : u47 q46 = some (.inr (1, [.null, .int 0, .int 0])) := by rw [hu47]; exact va_up_self _ _ _
  refine lv_dup hx hb dX8_init_124 rfl ?_
  have m_q10 := hF.lt f_q10
  have m_q13 := hF.lt f_q13
  have m_q16 := hF.lt f_q16
  have m_q19 := hF.lt f_q19
  have m_q22 := hF.lt f_q22
  have m_h0 := hF.lt f_h0
  have m_q28 := hF.lt f_q28
  have m_q1 := hF.lt f_q1
  have m_q35 := hF.lt f_q35
  have m_q32 := hF.lt f_q32
  have m_q4 := hF.lt f_q4
  have m_q42 := hF.lt f_q42
  have m_q39 := hF.lt f_q39
  have m_q7 := hF.lt f_q7
  have m_q46 := hF.lt f_q46
  refine fw_callIN (As := []) (rest := [.ref q46, .int 0, .ref q10]) X bs_all nw_all mf_X1_init (c_X1_init l D cs _ _ q46 f_q46) nm_146 wm_147 rfl hF hS rfl ((⟨⟨Nat.le_of_ble_eq_true rfl, Nat.le_of_ble_eq_true rfl⟩, Nat.le_of_ble_eq_true rfl, Nat.le_of_ble_eq_true rfl⟩)) rfl hl.1 rfl (Nat.le_of_ble_eq_true rfl) dX8_init_125 (fun v u48 H locs hp hF hS hz1 hk1 hd1 => ?_)
  obtain ⟨hv1, q49, nq49, hw1⟩ := hp
  subst hv1
  have leq49 := (hd1 q49 (by rw [hw1, va_up_ne _ _ (Ne.symm (gx_ne f_q46 nq49)), va_up_self]; exact fun z => by cases z)).resolve_left (fun z => z nq49)
  have l_q10_q49 : q10 < q49 := Nat.lt_of_lt_of_le m_q10 leq49
  have l_q13_q49 : q13 < q49 := Nat.lt_of_lt_of_le m_q13 leq49
  have l_q16_q49 : q16 < q49 := Nat.lt_of_lt_of_le m_q16 leq49
  have l_q19_q49 : q19 < q49 := Nat.lt_of_lt_of_le m_q19 leq49
  have l_q22_q49 : q22 < q49 := Nat.lt_of_lt_of_le m_q22 leq49
  have l_h0_q49 : h0 < q49 := Nat.lt_of_lt_of_le m_h0 leq49
  have l_q28_q49 : q28 < q49 := Nat.lt_of_lt_of_le m_q28 leq49
  have l_q1_q49 : q1 < q49 := Nat.lt_of_lt_of_le m_q1 leq49
  have l_q35_q49 : q35 < q49 := Nat.lt_of_lt_of_le m_q35 leq49
  have l_q32_q49 : q32 < q49 := Nat.lt_of_lt_of_le m_q32 leq49
  have l_q4_q49 : q4 < q49 := Nat.lt_of_lt_of_le m_q4 leq49
  have l_q42_q49 : q42 < q49 := Nat.lt_of_lt_of_le m_q42 leq49
  have l_q39_q49 : q39 < q49 := Nat.lt_of_lt_of_le m_q39 leq49
  have l_q7_q49 : q7 < q49 := Nat.lt_of_lt_of_le m_q7 leq49
  have l_q46_q49 : q46 < q49 := Nat.lt_of_lt_of_le m_q46 leq49
  clear m_q10 m_q13 m_q16 m_q19 m_q22 m_h0 m_q28 m_q1 m_q35 m_q32 m_q4 m_q42 m_q39 m_q7 m_q46
  rw [hw1] at hF
  clear hw1 hd1 hk1
  obtain ⟨u50, hu50⟩ : ∃ y : fW, y = va_up u47 q49 (some (.inl (cs 0, 144, .inl (fun _ => 0)))) := ⟨_, rfl⟩
  rw [← hu50] at hF
  replace f_q10 : u50 q10 = some (.inl (cs 5, 4, .inr (.inr (.inr (.inr (fun _ => none)))))) := by rw [hu50]; exact (va_up_ne _ _ (Nat.ne_of_lt l_q10_q49)).trans f_q10
  replace f_q13 : u50 q13 = some (.inl (cs 6, 4, .inr (.inr (.inr (.inr (fun _ => none)))))) := by rw [hu50]; exact (va_up_ne _ _ (Nat.ne_of_lt l_q13_q49)).trans f_q13
  replace f_q16 : u50 q16 = some (.inl (cs 0, 4, .inl (fun _ => 0))) := by rw [hu50]; exact (va_up_ne _ _ (Nat.ne_of_lt l_q16_q49)).trans f_q16
  replace f_q19 : u50 q19 = some (.inl (cs 0, 8, .inl (fun _ => 0))) := by rw [hu50]; exact (va_up_ne _ _ (Nat.ne_of_lt l_q19_q49)).trans f_q19
  replace f_q22 : u50 q22 = some (.inr (4, [.int 0, .int 0, .int 0, .int (-1), .int 0, .long 0])) := by rw [hu50]; exact (va_up_ne _ _ (Nat.ne_of_lt l_q22_q49)).trans f_q22
  replace f_h0 : u50 h0 = some (.inr (8, [.ref q1, .ref q4, .ref q7, .ref q10, .ref q13, .ref q16, .ref q19, .ref q22])) := by rw [hu50]; exact (va_up_ne _ _ (Nat.ne_of_lt l_h0_q49)).trans f_h0
  replace f_q28 : u50 q28 = some (.inr (5, [.int 0, .int 0, .null, .null, .int 0, .int 0])) := by rw [hu50]; exact (va_up_ne _ _ (Nat.ne_of_lt l_q28_q49)).trans f_q28
  replace f_q1 : u50 q1 = some (.inl (cs 2, 4, .inr (.inr (.inr (.inr (va_up (fun _ => none) 0 (some q28))))))) := by rw [hu50]; exact (va_up_ne _ _ (Nat.ne_of_lt l_q1_q49)).trans f_q1
  replace f_q35 : u50 q35 = some (.inl (cs 0, 12, .inl (fun _ => 0))) := by rw [hu50]; exact (va_up_ne _ _ (Nat.ne_of_lt l_q35_q49)).trans f_q35
  replace f_q32 : u50 q32 = some (.inr (0, [.ref q35, .int (-1)])) := by rw [hu50]; exact (va_up_ne _ _ (Nat.ne_of_lt l_q32_q49)).trans f_q32
  replace f_q4 : u50 q4 = some (.inl (cs 3, 4, .inr (.inr (.inr (.inr (va_up (fun _ => none) 0 (some q32))))))) := by rw [hu50]; exact (va_up_ne _ _ (Nat.ne_of_lt l_q4_q49)).trans f_q4
  replace f_q42 : u50 q42 = some (.inl (cs 7, 12, .inr (.inr (.inr (.inr (fun _ => none)))))) := by rw [hu50]; exact (va_up_ne _ _ (Nat.ne_of_lt l_q42_q49)).trans f_q42
  replace f_q39 : u50 q39 = some (.inr (3, [.ref q42, .int (-1), .int 0])) := by rw [hu50]; exact (va_up_ne _ _ (Nat.ne_of_lt l_q39_q49)).trans f_q39
  replace f_q7 : u50 q7 = some (.inl (cs 4, 4, .inr (.inr (.inr (.inr (va_up (fun _ => none) 0 (some q39))))))) := by rw [hu50]; exact (va_up_ne _ _ (Nat.ne_of_lt l_q7_q49)).trans f_q7
  replace f_q46 : u50 q46 = some (.inr (1, [.null, .int 0, .int 0])) := by rw [hu50]; exact (va_up_ne _ _ (Nat.ne_of_lt l_q46_q49)).trans f_q46
  have f_q49 : u50 q49 = some (.inl (cs 0, 144, .inl (fun _ => 0))) := by rw [hu50]; exact va_up_self _ _ _
  obtain ⟨u51, hu51⟩ : ∃ y : fW, y = va_up u50 q46 (some (.inr (1, [.ref q49, .int (-1), .int 0]))) := ⟨_, rfl⟩
  rw [← hu51] at hF
  replace f_q10 : u51 q10 = some (.inl (cs 5, 4, .inr (.inr (.inr (.inr (fun _ => none)))))) := by rw [hu51]; exact (va_up_ne _ _ (Nat.ne_of_lt l_q10_q46)).trans f_q10
  replace f_q13 : u51 q13 = some (.inl (cs 6, 4, .inr (.inr (.inr (.inr (fun _ => none)))))) := by rw [hu51]; exact (va_up_ne _ _ (Nat.ne_of_lt l_q13_q46)).trans f_q13
  replace f_q16 : u51 q16 = some (.inl (cs 0, 4, .inl (fun _ => 0))) := by rw [hu51]; exact (va_up_ne _ _ (Nat.ne_of_lt l_q16_q46)).trans f_q16
  replace f_q19 : u51 q19 = some (.inl (cs 0, 8, .inl (fun _ => 0))) := by rw [hu51]; exact (va_up_ne _ _ (Nat.ne_of_lt l_q19_q46)).trans f_q19
  replace f_q22 : u51 q22 = some (.inr (4, [.int 0, .int 0, .int 0, .int (-1), .int 0, .long 0])) := by rw [hu51]; exact (va_up_ne _ _ (Nat.ne_of_lt l_q22_q46)).trans f_q22
  replace f_h0 : u51 h0 = some (.inr (8, [.ref q1, .ref q4, .ref q7, .ref q10, .ref q13, .ref q16, .ref q19, .ref q22])) := by rw [hu51]; exact (va_up_ne _ _ (Nat.ne_of_lt l_h0_q46)).trans f_h0
  replace f_q28 : u51 q28 = some (.inr (5, [.int 0, .int 0, .null, .null, .int 0, .int 0])) := by rw [hu51]; exact (va_up_ne _ _ (Nat.ne_of_lt l_q28_q46)).trans f_q28
  replace f_q1 : u51 q1 = some (.inl (cs 2, 4, .inr (.inr (.inr (.inr (va_up (fun _ => none) 0 (some q28))))))) := by rw [hu51]; exact (va_up_ne _ _ (Nat.ne_of_lt l_q1_q46)).trans f_q1
  replace f_q35 : u51 q35 = some (.inl (cs 0, 12, .inl (fun _ => 0))) := by rw [hu51]; exact (va_up_ne _ _ (Nat.ne_of_lt l_q35_q46)).trans f_q35
  replace f_q32 : u51 q32 = some (.inr (0, [.ref q35, .int (-1)])) := by rw [hu51]; exact (va_up_ne _ _ (Nat.ne_of_lt l_q32_q46)).trans f_q32
  replace f_q4 : u51 q4 = some (.inl (cs 3, 4, .inr (.inr (.inr (.inr (va_up (fun _ => none) 0 (some q32))))))) := by rw [hu51]; exact (va_up_ne _ _ (Nat.ne_of_lt l_q4_q46)).trans f_q4
  replace f_q42 : u51 q42 = some (.inl (cs 7, 12, .inr (.inr (.inr (.inr (fun _ => none)))))) := by rw [hu51]; exact (va_up_ne _ _ (Nat.ne_of_lt l_q42_q46)).trans f_q42
  replace f_q39 : u51 q39 = some (.inr (3, [.ref q42, .int (-1), .int 0])) := by rw [hu51]; exact (va_up_ne _ _ (Nat.ne_of_lt l_q39_q46)).trans f_q39
  replace f_q7 : u51 q7 = some (.inl (cs 4, 4, .inr (.inr (.inr (.inr (va_up (fun _ => none) 0 (some q39))))))) := by rw [hu51]; exact (va_up_ne _ _ (Nat.ne_of_lt l_q7_q46)).trans f_q7
  replace f_q49 : u51 q49 = some (.inl (cs 0, 144, .inl (fun _ => 0))) := by rw [hu51]; exact (va_up_ne _ _ (Nat.ne_of_gt l_q46_q49)).trans f_q49
  replace f_q46 : u51 q46 = some (.inr (1, [.ref q49, .int (-1), .int 0])) := by rw [hu51]; exact va_up_self _ _ _
  refine W.eq (g2 := F0 m 128 ls [.ref q46, .int 0, .ref q10]) rfl ?_
  refine fw_astq X hF hS f_q10 5 rfl f_q46 rfl (vp_in_iff.mpr (by decide)) dX8_init_128 (fun H locs hF hS => ?_)
  have hF : fw_P D cls10 A (va_up u51 q10 (some (.inl (cs 5, 4, .inr (.inr (.inr (.inr (va_up (fun _ => none) 0 (some q46))))))))) H := hF
  obtain ⟨u52, hu52⟩ : ∃ y : fW, y = va_up u51 q10 (some (.inl (cs 5, 4, .inr (.inr (.inr (.inr (va_up (fun _ => none) 0 (some q46)))))))) := ⟨_, rfl⟩
  rw [← hu52] at hF
  replace f_q13 : u52 q13 = some (.inl (cs 6, 4, .inr (.inr (.inr (.inr (fun _ => none)))))) := by rw [hu52]; exact (va_up_ne _ _ (Nat.ne_of_gt l_q10_q13)).trans f_q13
  replace f_q16 : u52 q16 = some (.inl (cs 0, 4, .inl (fun _ => 0))) := by rw [hu52]; exact (va_up_ne _ _ (Nat.ne_of_gt l_q10_q16)).trans f_q16
  replace f_q19 : u52 q19 = some (.inl (cs 0, 8, .inl (fun _ => 0))) := by rw [hu52]; exact (va_up_ne _ _ (Nat.ne_of_gt l_q10_q19)).trans f_q19
  replace f_q22 : u52 q22 = some (.inr (4, [.int 0, .int 0, .int 0, .int (-1), .int 0, .long 0])) := by rw [hu52]; exact (va_up_ne _ _ (Nat.ne_of_gt l_q10_q22)).trans f_q22
  replace f_h0 : u52 h0 = some (.inr (8, [.ref q1, .ref q4, .ref q7, .ref q10, .ref q13, .ref q16, .ref q19, .ref q22])) := by rw [hu52]; exact (va_up_ne _ _ (Nat.ne_of_lt l_h0_q10)).trans f_h0
  replace f_q28 : u52 q28 = some (.inr (5, [.int 0, .int 0, .null, .null, .int 0, .int 0])) := by rw [hu52]; exact (va_up_ne _ _ (Nat.ne_of_gt l_q10_q28)).trans f_q28
  replace f_q1 : u52 q1 = some (.inl (cs 2, 4, .inr (.inr (.inr (.inr (va_up (fun _ => none) 0 (some q28))))))) := by rw [hu52]; exact (va_up_ne _ _ (Nat.ne_of_lt l_q1_q10)).trans f_q1
  replace f_q35 : u52 q35 = some (.inl (cs 0, 12, .inl (fun _ => 0))) := by rw [hu52]; exact (va_up_ne _ _ (Nat.ne_of_gt l_q10_q35)).trans f_q35
  replace f_q32 : u52 q32 = some (.inr (0, [.ref q35, .int (-1)])) := by rw [hu52]; exact (va_up_ne _ _ (Nat.ne_of_gt l_q10_q32)).trans f_q32
  replace f_q4 : u52 q4 = some (.inl (cs 3, 4, .inr (.inr (.inr (.inr (va_up (fun _ => none) 0 (some q32))))))) := by rw [hu52]; exact (va_up_ne _ _ (Nat.ne_of_lt l_q4_q10)).trans f_q4
  replace f_q42 : u52 q42 = some (.inl (cs 7, 12, .inr (.inr (.inr (.inr (fun _ => none)))))) := by rw [hu52]; exact (va_up_ne _ _ (Nat.ne_of_gt l_q10_q42)).trans f_q42
  replace f_q39 : u52 q39 = some (.inr (3, [.ref q42, .int (-1), .int 0])) := by rw [hu52]; exact (va_up_ne _ _ (Nat.ne_of_gt l_q10_q39)).trans f_q39
  replace f_q7 : u52 q7 = some (.inl (cs 4, 4, .inr (.inr (.inr (.inr (va_up (fun _ => none) 0 (some q39))))))) := by rw [hu52]; exact (va_up_ne _ _ (Nat.ne_of_lt l_q7_q10)).trans f_q7
  replace f_q49 : u52 q49 = some (.inl (cs 0, 144, .inl (fun _ => 0))) := by rw [hu52]; exact (va_up_ne _ _ (Nat.ne_of_gt l_q10_q49)).trans f_q49
  replace f_q46 : u52 q46 = some (.inr (1, [.ref q49, .int (-1), .int 0])) := by rw [hu52]; exact (va_up_ne _ _ (Nat.ne_of_gt l_q10_q46)).trans f_q46
  replace f_q10 : u52 q10 = some (.inl (cs 5, 4, .inr (.inr (.inr (.inr (va_up (fun _ => none) 0 (some q46))))))) := by rw [hu52]; exact va_up_self _ _ _
  refine lv_aload_n hx hb dX8_init_129 rfl (lv_at hl 1 rfl) ?_
  refine fw_get X gC_ok hF f_h0 rfl 4 (by decide) wm_180 rfl dX8_init_130 ?_
  refine lv_iload_n hx hb dX8_init_133 rfl (lv_at hl 0 rfl) ?_
  have m_q13 := hF.lt f_q13
  have m_q16 := hF.lt f_q16
  have m_q19 := hF.lt f_q19
  have m_q22 := hF.lt f_q22
  have m_h0 := hF.lt f_h0
  have m_q28 := hF.lt f_q28
  have m_q1 := hF.lt f_q1
  have m_q35 := hF.lt f_q35
  have m_q32 := hF.lt f_q32
  have m_q4 := hF.lt f_q4
  have m_q42 := hF.lt f_q42
  have m_q39 := hF.lt f_q39
  have m_q7 := hF.lt f_q7
  have m_q49 := hF.lt f_q49
  have m_q46 := hF.lt f_q46
  have m_q10 := hF.lt f_q10
  refine fw_new (ci := 2) (fs := [.null, .int 0]) X gC_ok hF hS rfl tyX2 tyX2_ok (by decide +kernel) wm_52 wm_161 wm_31 (Nat.le_of_ble_eq_true rfl) (Nat.le_of_ble_eq_true rfl) dX8_init_134 (fun q53 H nq53 zq53 zzq53 hF hS => ?_)
  have l_q13_q53 : q13 < q53 := Nat.lt_of_lt_of_le m_q13 (Nat.le_of_eq zq53.symm)
  have l_q16_q53 : q16 < q53 := Nat.lt_of_lt_of_le m_q16 (Nat.le_of_eq zq53.symm)
  have l_q19_q53 : q19 < q53 := Nat.lt_of_lt_of_le m_q19 (Nat.le_of_eq zq53.symm)
  have l_q22_q53 : q22 < q53 := Nat.lt_of_lt_of_le m_q22 (Nat.le_of_eq zq53.symm)
  have l_h0_q53 : h0 < q53 := Nat.lt_of_lt_of_le m_h0 (Nat.le_of_eq zq53.symm)
  have l_q28_q53 : q28 < q53 := Nat.lt_of_lt_of_le m_q28 (Nat.le_of_eq zq53.symm)
  have l_q1_q53 : q1 < q53 := Nat.lt_of_lt_of_le m_q1 (Nat.le_of_eq zq53.symm)
  have l_q35_q53 : q35 < q53 := Nat.lt_of_lt_of_le m_q35 (Nat.le_of_eq zq53.symm)
  have l_q32_q53 : q32 < q53 := Nat.lt_of_lt_of_le m_q32 (Nat.le_of_eq zq53.symm)
  have l_q4_q53 : q4 < q53 := Nat.lt_of_lt_of_le m_q4 (Nat.le_of_eq zq53.symm)
  have l_q42_q53 : q42 < q53 := Nat.lt_of_lt_of_le m_q42 (Nat.le_of_eq zq53.symm)
  have l_q39_q53 : q39 < q53 := Nat.lt_of_lt_of_le m_q39 (Nat.le_of_eq zq53.symm)
  have l_q7_q53 : q7 < q53 := Nat.lt_of_lt_of_le m_q7 (Nat.le_of_eq zq53.symm)
  have l_q49_q53 : q49 < q53 := Nat.lt_of_lt_of_le m_q49 (Nat.le_of_eq zq53.symm)
  have l_q46_q53 : q46 < q53 := Nat.lt_of_lt_of_le m_q46 (Nat.le_of_eq zq53.symm)
  have l_q10_q53 : q10 < q53 := Nat.lt_of_lt_of_le m_q10 (Nat.le_of_eq zq53.symm)
  clear m_q13 m_q16 m_q19 m_q22 m_h0 m_q28 m_q1 m_q35 m_q32 m_q4 m_q42 m_q39 m_q7 m_q49 m_q46 m_q10
  have hF : fw_P D cls10 A (va_up u52 q53 (some (.inr (2, [.null, .int 0])))) H := hF
  obtain ⟨u54, hu54⟩ : ∃ y : fW, y = va_up u52 q53 (some (.inr (2, [.null, .int 0]))) := ⟨_, rfl⟩
  rw [← hu54] at hF
  replace f_q13 : u54 q13 = some (.inl (cs 6, 4, .inr (.inr (.inr (.inr (fun _ => none)))))) := by rw [hu54]; exact (va_up_ne _ _ (Nat.ne_of_lt l_q13_q53)).trans f_q13
  replace f_q16 : u54 q16 = some (.inl (cs 0, 4, .inl (fun _ => 0))) := by rw [hu54]; exact (va_up_ne _ _ (Nat.ne_of_lt l_q16_q53)).trans f_q16
  replace f_q19 : u54 q19 = some (.inl (cs 0, 8, .inl (fun _ => 0))) := by rw [hu54]; exact (va_up_ne _ _ (Nat.ne_of_lt l_q19_q53)).trans f_q19
  replace f_q22 : u54 q22 = some (.inr (4, [.int 0, .int 0, .int 0, .int (-1), .int 0, .long 0])) := by rw [hu54]; exact (va_up_ne _ _ (Nat.ne_of_lt l_q22_q53)).trans f_q22
  replace f_h0 : u54 h0 = some (.inr (8, [.ref q1, .ref q4, .ref q7, .ref q10, .ref q13, .ref q16, .ref q19, .ref q22])) := by rw [hu54]; exact (va_up_ne _ _ (Nat.ne_of_lt l_h0_q53)).trans f_h0
  replace f_q28 : u54 q28 = some (.inr (5, [.int 0, .int 0, .null, .null, .int 0, .int 0])) := by rw [hu54]; exact (va_up_ne _ _ (Nat.ne_of_lt l_q28_q53)).trans f_q28
  replace f_q1 : u54 q1 = some (.inl (cs 2, 4, .inr (.inr (.inr (.inr (va_up (fun _ => none) 0 (some q28))))))) := by rw [hu54]; exact (va_up_ne _ _ (Nat.ne_of_lt l_q1_q53)).trans f_q1
  replace f_q35 : u54 q35 = some (.inl (cs 0, 12, .inl (fun _ => 0))) := by rw [hu54]; exact (va_up_ne _ _ (Nat.ne_of_lt l_q35_q53)).trans f_q35
  replace f_q32 : u54 q32 = some (.inr (0, [.ref q35, .int (-1)])) := by rw [hu54]; exact (va_up_ne _ _ (Nat.ne_of_lt l_q32_q53)).trans f_q32
  replace f_q4 : u54 q4 = some (.inl (cs 3, 4, .inr (.inr (.inr (.inr (va_up (fun _ => none) 0 (some q32))))))) := by rw [hu54]; exact (va_up_ne _ _ (Nat.ne_of_lt l_q4_q53)).trans f_q4
  replace f_q42 : u54 q42 = some (.inl (cs 7, 12, .inr (.inr (.inr (.inr (fun _ => none)))))) := by rw [hu54]; exact (va_up_ne _ _ (Nat.ne_of_lt l_q42_q53)).trans f_q42
  replace f_q39 : u54 q39 = some (.inr (3, [.ref q42, .int (-1), .int 0])) := by rw [hu54]; exact (va_up_ne _ _ (Nat.ne_of_lt l_q39_q53)).trans f_q39
  replace f_q7 : u54 q7 = some (.inl (cs 4, 4, .inr (.inr (.inr (.inr (va_up (fun _ => none) 0 (some q39))))))) := by rw [hu54]; exact (va_up_ne _ _ (Nat.ne_of_lt l_q7_q53)).trans f_q7
  replace f_q49 : u54 q49 = some (.inl (cs 0, 144, .inl (fun _ => 0))) := by rw [hu54]; exact (va_up_ne _ _ (Nat.ne_of_lt l_q49_q53)).trans f_q49
  replace f_q46 : u54 q46 = some (.inr (1, [.ref q49, .int (-1), .int 0])) := by rw [hu54]; exact (va_up_ne _ _ (Nat.ne_of_lt l_q46_q53)).trans f_q46
  replace f_q10 : u54 q10 = some (.inl (cs 5, 4, .inr (.inr (.inr (.inr (va_up (fun _ => none) 0 (some q46))))))) := by rw [hu54]; exact (va_up_ne _ _ (Nat.ne_of_lt l_q10_q53)).trans f_q10
  have f_q53 : u54 q53 = some (.inr (2, [.null, .int 0])) := by rw [hu54]; exact va_up_self _ _ _
  refine lv_dup hx hb dX8_init_137 rfl ?_
  have m_q13 := hF.lt f_q13
  have m_q16 := hF.lt f_q16
  have m_q19 := hF.lt f_q19
  have m_q22 := hF.lt f_q22
  have m_h0 := hF.lt f_h0
  have m_q28 := hF.lt f_q28
  have m_q1 := hF.lt f_q1
  have m_q35 := hF.lt f_q35
  have m_q32 := hF.lt f_q32
  have m_q4 := hF.lt f_q4
  have m_q42 := hF.lt f_q42
  have m_q39 := hF.lt f_q39
  have m_q7 := hF.lt f_q7
  have m_q49 := hF.lt f_q49
  have m_q46 := hF.lt f_q46
  have m_q10 := hF.lt f_q10
  have m_q53 := hF.lt f_q53
  refine fw_callIN (As := []) (rest := [.ref q53, .int 0, .ref q13]) X bs_all nw_all mf_X2_init (c_X2_init l D cs _ _ q53 f_q53) nm_162 wm_163 rfl hF hS rfl ((⟨⟨Nat.le_of_ble_eq_true rfl, Nat.le_of_ble_eq_true rfl⟩, Nat.le_of_ble_eq_true rfl, Nat.le_of_ble_eq_true rfl⟩)) rfl hl.1 rfl (Nat.le_of_ble_eq_true rfl) dX8_init_138 (fun v u55 H locs hp hF hS hz1 hk1 hd1 => ?_)
  obtain ⟨hv1, q56, nq56, hw1⟩ := hp
  subst hv1
  have leq56 := (hd1 q56 (by rw [hw1, va_up_ne _ _ (Ne.symm (gx_ne f_q53 nq56)), va_up_self]; exact fun z => by cases z)).resolve_left (fun z => z nq56)
  have l_q13_q56 : q13 < q56 := Nat.lt_of_lt_of_le m_q13 leq56
  have l_q16_q56 : q16 < q56 := Nat.lt_of_lt_of_le m_q16 leq56
  have l_q19_q56 : q19 < q56 := Nat.lt_of_lt_of_le m_q19 leq56
  have l_q22_q56 : q22 < q56 := Nat.lt_of_lt_of_le m_q22 leq56
  have l_h0_q56 : h0 < q56 := Nat.lt_of_lt_of_le m_h0 leq56
  have l_q28_q56 : q28 < q56 := Nat.lt_of_lt_of_le m_q28 leq56
  have l_q1_q56 : q1 < q56 := Nat.lt_of_lt_of_le m_q1 leq56
  have l_q35_q56 : q35 < q56 := Nat.lt_of_lt_of_le m_q35 leq56
  have l_q32_q56 : q32 < q56 := Nat.lt_of_lt_of_le m_q32 leq56
  have l_q4_q56 : q4 < q56 := Nat.lt_of_lt_of_le m_q4 leq56
  have l_q42_q56 : q42 < q56 := Nat.lt_of_lt_of_le m_q42 leq56
  have l_q39_q56 : q39 < q56 := Nat.lt_of_lt_of_le m_q39 leq56
  have l_q7_q56 : q7 < q56 := Nat.lt_of_lt_of_le m_q7 leq56
  have l_q49_q56 : q49 < q56 := Nat.lt_of_lt_of_le m_q49 leq56
  have l_q46_q56 : q46 < q56 := Nat.lt_of_lt_of_le m_q46 leq56
  have l_q10_q56 : q10 < q56 := Nat.lt_of_lt_of_le m_q10 leq56
  have l_q53_q56 : q53 < q56 := Nat.lt_of_lt_of_le m_q53 leq56
  clear m_q13 m_q16 m_q19 m_q22 m_h0 m_q28 m_q1 m_q35 m_q32 m_q4 m_q42 m_q39 m_q7 m_q49 m_q46 m_q10 m_q53
  rw [hw1] at hF
  clear hw1 hd1 hk1
  obtain ⟨u57, hu57⟩ : ∃ y : fW, y = va_up u54 q56 (some (.inl (cs 8, 16, .inr (.inr (.inr (.inr (fun _ => none))))))) := ⟨_, rfl⟩
  rw [← hu57] at hF
  replace f_q13 : u57 q13 = some (.inl (cs 6, 4, .inr (.inr (.inr (.inr (fun _ => none)))))) := by rw [hu57]; exact (va_up_ne _ _ (Nat.ne_of_lt l_q13_q56)).trans f_q13
  replace f_q16 : u57 q16 = some (.inl (cs 0, 4, .inl (fun _ => 0))) := by rw [hu57]; exact (va_up_ne _ _ (Nat.ne_of_lt l_q16_q56)).trans f_q16
  replace f_q19 : u57 q19 = some (.inl (cs 0, 8, .inl (fun _ => 0))) := by rw [hu57]; exact (va_up_ne _ _ (Nat.ne_of_lt l_q19_q56)).trans f_q19
  replace f_q22 : u57 q22 = some (.inr (4, [.int 0, .int 0, .int 0, .int (-1), .int 0, .long 0])) := by rw [hu57]; exact (va_up_ne _ _ (Nat.ne_of_lt l_q22_q56)).trans f_q22
  replace f_h0 : u57 h0 = some (.inr (8, [.ref q1, .ref q4, .ref q7, .ref q10, .ref q13, .ref q16, .ref q19, .ref q22])) := by rw [hu57]; exact (va_up_ne _ _ (Nat.ne_of_lt l_h0_q56)).trans f_h0
  replace f_q28 : u57 q28 = some (.inr (5, [.int 0, .int 0, .null, .null, .int 0, .int 0])) := by rw [hu57]; exact (va_up_ne _ _ (Nat.ne_of_lt l_q28_q56)).trans f_q28
  replace f_q1 : u57 q1 = some (.inl (cs 2, 4, .inr (.inr (.inr (.inr (va_up (fun _ => none) 0 (some q28))))))) := by rw [hu57]; exact (va_up_ne _ _ (Nat.ne_of_lt l_q1_q56)).trans f_q1
  replace f_q35 : u57 q35 = some (.inl (cs 0, 12, .inl (fun _ => 0))) := by rw [hu57]; exact (va_up_ne _ _ (Nat.ne_of_lt l_q35_q56)).trans f_q35
  replace f_q32 : u57 q32 = some (.inr (0, [.ref q35, .int (-1)])) := by rw [hu57]; exact (va_up_ne _ _ (Nat.ne_of_lt l_q32_q56)).trans f_q32
  replace f_q4 : u57 q4 = some (.inl (cs 3, 4, .inr (.inr (.inr (.inr (va_up (fun _ => none) 0 (some q32))))))) := by rw [hu57]; exact (va_up_ne _ _ (Nat.ne_of_lt l_q4_q56)).trans f_q4
  replace f_q42 : u57 q42 = some (.inl (cs 7, 12, .inr (.inr (.inr (.inr (fun _ => none)))))) := by rw [hu57]; exact (va_up_ne _ _ (Nat.ne_of_lt l_q42_q56)).trans f_q42
  replace f_q39 : u57 q39 = some (.inr (3, [.ref q42, .int (-1), .int 0])) := by rw [hu57]; exact (va_up_ne _ _ (Nat.ne_of_lt l_q39_q56)).trans f_q39
  replace f_q7 : u57 q7 = some (.inl (cs 4, 4, .inr (.inr (.inr (.inr (va_up (fun _ => none) 0 (some q39))))))) := by rw [hu57]; exact (va_up_ne _ _ (Nat.ne_of_lt l_q7_q56)).trans f_q7
  replace f_q49 : u57 q49 = some (.inl (cs 0, 144, .inl (fun _ => 0))) := by rw [hu57]; exact (va_up_ne _ _ (Nat.ne_of_lt l_q49_q56)).trans f_q49
  replace f_q46 : u57 q46 = some (.inr (1, [.ref q49, .int (-1), .int 0])) := by rw [hu57]; exact (va_up_ne _ _ (Nat.ne_of_lt l_q46_q56)).trans f_q46
  replace f_q10 : u57 q10 = some (.inl (cs 5, 4, .inr (.inr (.inr (.inr (va_up (fun _ => none) 0 (some q46))))))) := by rw [hu57]; exact (va_up_ne _ _ (Nat.ne_of_lt l_q10_q56)).trans f_q10
  replace f_q53 : u57 q53 = some (.inr (2, [.null, .int 0])) := by rw [hu57]; exact (va_up_ne _ _ (Nat.ne_of_lt l_q53_q56)).trans f_q53
  have f_q56 : u57 q56 = some (.inl (cs 8, 16, .inr (.inr (.inr (.inr (fun _ => none)))))) := by rw [hu57]; exact va_up_self _ _ _
  obtain ⟨u58, hu58⟩ : ∃ y : fW, y = va_up u57 q53 (some (.inr (2, [.ref q56, .int 0]))) := ⟨_, rfl⟩
  rw [← hu58] at hF
  replace f_q13 : u58 q13 = some (.inl (cs 6, 4, .inr (.inr (.inr (.inr (fun _ => none)))))) := by rw [hu58]; exact (va_up_ne _ _ (Nat.ne_of_lt l_q13_q53)).trans f_q13
  replace f_q16 : u58 q16 = some (.inl (cs 0, 4, .inl (fun _ => 0))) := by rw [hu58]; exact (va_up_ne _ _ (Nat.ne_of_lt l_q16_q53)).trans f_q16
  replace f_q19 : u58 q19 = some (.inl (cs 0, 8, .inl (fun _ => 0))) := by rw [hu58]; exact (va_up_ne _ _ (Nat.ne_of_lt l_q19_q53)).trans f_q19
  replace f_q22 : u58 q22 = some (.inr (4, [.int 0, .int 0, .int 0, .int (-1), .int 0, .long 0])) := by rw [hu58]; exact (va_up_ne _ _ (Nat.ne_of_lt l_q22_q53)).trans f_q22
  replace f_h0 : u58 h0 = some (.inr (8, [.ref q1, .ref q4, .ref q7, .ref q10, .ref q13, .ref q16, .ref q19, .ref q22])) := by rw [hu58]; exact (va_up_ne _ _ (Nat.ne_of_lt l_h0_q53)).trans f_h0
  replace f_q28 : u58 q28 = some (.inr (5, [.int 0, .int 0, .null, .null, .int 0, .int 0])) := by rw [hu58]; exact (va_up_ne _ _ (Nat.ne_of_lt l_q28_q53)).trans f_q28
  replace f_q1 : u58 q1 = some (.inl (cs 2, 4, .inr (.inr (.inr (.inr (va_up (fun _ => none) 0 (some q28))))))) := by rw [hu58]; exact (va_up_ne _ _ (Nat.ne_of_lt l_q1_q53)).trans f_q1
  replace f_q35 : u58 q35 = some (.inl (cs 0, 12, .inl (fun _ => 0))) := by rw [hu58]; exact (va_up_ne _ _ (Nat.ne_of_lt l_q35_q53)).trans f_q35
  replace f_q32 : u58 q32 = some (.inr (0, [.ref q35, .int (-1)])) := by rw [hu58]; exact (va_up_ne _ _ (Nat.ne_of_lt l_q32_q53)).trans f_q32
  replace f_q4 : u58 q4 = some (.inl (cs 3, 4, .inr (.inr (.inr (.inr (va_up (fun _ => none) 0 (some q32))))))) := by rw [hu58]; exact (va_up_ne _ _ (Nat.ne_of_lt l_q4_q53)).trans f_q4
  replace f_q42 : u58 q42 = some (.inl (cs 7, 12, .inr (.inr (.inr (.inr (fun _ => none)))))) := by rw [hu58]; exact (va_up_ne _ _ (Nat.ne_of_lt l_q42_q53)).trans f_q42
  replace f_q39 : u58 q39 = some (.inr (3, [.ref q42, .int (-1), .int 0])) := by rw [hu58]; exact (va_up_ne _ _ (Nat.ne_of_lt l_q39_q53)).trans f_q39
  replace f_q7 : u58 q7 = some (.inl (cs 4, 4, .inr (.inr (.inr (.inr (va_up (fun _ => none) 0 (some q39))))))) := by rw [hu58]; exact (va_up_ne _ _ (Nat.ne_of_lt l_q7_q53)).trans f_q7
  replace f_q49 : u58 q49 = some (.inl (cs 0, 144, .inl (fun _ => 0))) := by rw [hu58]; exact (va_up_ne _ _ (Nat.ne_of_lt l_q49_q53)).trans f_q49
  replace f_q46 : u58 q46 = some (.inr (1, [.ref q49, .int (-1), .int 0])) := by rw [hu58]; exact (va_up_ne _ _ (Nat.ne_of_lt l_q46_q53)).trans f_q46
  replace f_q10 : u58 q10 = some (.inl (cs 5, 4, .inr (.inr (.inr (.inr (va_up (fun _ => none) 0 (some q46))))))) := by rw [hu58]; exact (va_up_ne _ _ (Nat.ne_of_lt l_q10_q53)).trans f_q10
  replace f_q56 : u58 q56 = some (.inl (cs 8, 16, .inr (.inr (.inr (.inr (fun _ => none)))))) := by rw [hu58]; exact (va_up_ne _ _ (Nat.ne_of_gt l_q53_q56)).trans f_q56
  replace f_q53 : u58 q53 = some (.inr (2, [.ref q56, .int 0])) := by rw [hu58]; exact va_up_self _ _ _
  refine W.eq (g2 := F0 m 141 ls [.ref q53, .int 0, .ref q13]) rfl ?_
  refine fw_astq X hF hS f_q13 6 rfl f_q53 rfl (vp_in_iff.mpr (by decide)) dX8_init_141 (fun H locs hF hS => ?_)
  have hF : fw_P D cls10 A (va_up u58 q13 (some (.inl (cs 6, 4, .inr (.inr (.inr (.inr (va_up (fun _ => none) 0 (some q53))))))))) H := hF
  obtain ⟨u59, hu59⟩ : ∃ y : fW, y = va_up u58 q13 (some (.inl (cs 6, 4, .inr (.inr (.inr (.inr (va_up (fun _ => none) 0 (some q53)))))))) := ⟨_, rfl⟩
  rw [← hu59] at hF
  replace f_q16 : u59 q16 = some (.inl (cs 0, 4, .inl (fun _ => 0))) := by rw [hu59]; exact (va_up_ne _ _ (Nat.ne_of_gt l_q13_q16)).trans f_q16
  replace f_q19 : u59 q19 = some (.inl (cs 0, 8, .inl (fun _ => 0))) := by rw [hu59]; exact (va_up_ne _ _ (Nat.ne_of_gt l_q13_q19)).trans f_q19
  replace f_q22 : u59 q22 = some (.inr (4, [.int 0, .int 0, .int 0, .int (-1), .int 0, .long 0])) := by rw [hu59]; exact (va_up_ne _ _ (Nat.ne_of_gt l_q13_q22)).trans f_q22
  replace f_h0 : u59 h0 = some (.inr (8, [.ref q1, .ref q4, .ref q7, .ref q10, .ref q13, .ref q16, .ref q19, .ref q22])) := by rw [hu59]; exact (va_up_ne _ _ (Nat.ne_of_lt l_h0_q13)).trans f_h0
  replace f_q28 : u59 q28 = some (.inr (5, [.int 0, .int 0, .null, .null, .int 0, .int 0])) := by rw [hu59]; exact (va_up_ne _ _ (Nat.ne_of_gt l_q13_q28)).trans f_q28
  replace f_q1 : u59 q1 = some (.inl (cs 2, 4, .inr (.inr (.inr (.inr (va_up (fun _ => none) 0 (some q28))))))) := by rw [hu59]; exact (va_up_ne _ _ (Nat.ne_of_lt l_q1_q13)).trans f_q1
  replace f_q35 : u59 q35 = some (.inl (cs 0, 12, .inl (fun _ => 0))) := by rw [hu59]; exact (va_up_ne _ _ (Nat.ne_of_gt l_q13_q35)).trans f_q35
  replace f_q32 : u59 q32 = some (.inr (0, [.ref q35, .int (-1)])) := by rw [hu59]; exact (va_up_ne _ _ (Nat.ne_of_gt l_q13_q32)).trans f_q32
  replace f_q4 : u59 q4 = some (.inl (cs 3, 4, .inr (.inr (.inr (.inr (va_up (fun _ => none) 0 (some q32))))))) := by rw [hu59]; exact (va_up_ne _ _ (Nat.ne_of_lt l_q4_q13)).trans f_q4
  replace f_q42 : u59 q42 = some (.inl (cs 7, 12, .inr (.inr (.inr (.inr (fun _ => none)))))) := by rw [hu59]; exact (va_up_ne _ _ (Nat.ne_of_gt l_q13_q42)).trans f_q42
  replace f_q39 : u59 q39 = some (.inr (3, [.ref q42, .int (-1), .int 0])) := by rw [hu59]; exact (va_up_ne _ _ (Nat.ne_of_gt l_q13_q39)).trans f_q39
  replace f_q7 : u59 q7 = some (.inl (cs 4, 4, .inr (.inr (.inr (.inr (va_up (fun _ => none) 0 (some q39))))))) := by rw [hu59]; exact (va_up_ne _ _ (Nat.ne_of_lt l_q7_q13)).trans f_q7
  replace f_q49 : u59 q49 = some (.inl (cs 0, 144, .inl (fun _ => 0))) := by rw [hu59]; exact (va_up_ne _ _ (Nat.ne_of_gt l_q13_q49)).trans f_q49
  replace f_q46 : u59 q46 = some (.inr (1, [.ref q49, .int (-1), .int 0])) := by rw [hu59]; exact (va_up_ne _ _ (Nat.ne_of_gt l_q13_q46)).trans f_q46
  replace f_q10 : u59 q10 = some (.inl (cs 5, 4, .inr (.inr (.inr (.inr (va_up (fun _ => none) 0 (some q46))))))) := by rw [hu59]; exact (va_up_ne _ _ (Nat.ne_of_lt l_q10_q13)).trans f_q10
  replace f_q56 : u59 q56 = some (.inl (cs 8, 16, .inr (.inr (.inr (.inr (fun _ => none)))))) := by rw [hu59]; exact (va_up_ne _ _ (Nat.ne_of_gt l_q13_q56)).trans f_q56
  replace f_q53 : u59 q53 = some (.inr (2, [.ref q56, .int 0])) := by rw [hu59]; exact (va_up_ne _ _ (Nat.ne_of_gt l_q13_q53)).trans f_q53
  replace f_q13 : u59 q13 = some (.inl (cs 6, 4, .inr (.inr (.inr (.inr (va_up (fun _ => none) 0 (some q53))))))) := by rw [hu59]; exact va_up_self _ _ _
  refine lv_aload_n hx hb dX8_init_142 rfl (lv_at hl 1 rfl) ?_
  refine fw_get X gC_ok hF f_h0 rfl 5 (by decide) wm_181 rfl dX8_init_143 ?_
  refine lv_iload_n hx hb dX8_init_146 rfl (lv_at hl 0 rfl) ?_
  refine lv_iconst (v := 1) hx hb dX8_init_147 (by decide) ?_
  refine fw_iast X hF hS f_q16 0 rfl (vp_in_iff.mpr (by decide)) dX8_init_148 (fun H locs hF hS => ?_)
  have hF : fw_P D cls10 A (va_up u59 q16 (some (.inl (cs 0, 4, .inl (upd (fun _ => 0) 0 1))))) H := hF
  obtain ⟨u60, hu60⟩ : ∃ y : fW, y = va_up u59 q16 (some (.inl (cs 0, 4, .inl (upd (fun _ => 0) 0 1)))) := ⟨_, rfl⟩
  rw [← hu60] at hF
  replace f_q19 : u60 q19 = some (.inl (cs 0, 8, .inl (fun _ => 0))) := by rw [hu60]; exact (va_up_ne _ _ (Nat.ne_of_gt l_q16_q19)).trans f_q19
  replace f_q22 : u60 q22 = some (.inr (4, [.int 0, .int 0, .int 0, .int (-1), .int 0, .long 0])) := by rw [hu60]; exact (va_up_ne _ _ (Nat.ne_of_gt l_q16_q22)).trans f_q22
  replace f_h0 : u60 h0 = some (.inr (8, [.ref q1, .ref q4, .ref q7, .ref q10, .ref q13, .ref q16, .ref q19, .ref q22])) := by rw [hu60]; exact (va_up_ne _ _ (Nat.ne_of_lt l_h0_q16)).trans f_h0
  replace f_q28 : u60 q28 = some (.inr (5, [.int 0, .int 0, .null, .null, .int 0, .int 0])) := by rw [hu60]; exact (va_up_ne _ _ (Nat.ne_of_gt l_q16_q28)).trans f_q28
  replace f_q1 : u60 q1 = some (.inl (cs 2, 4, .inr (.inr (.inr (.inr (va_up (fun _ => none) 0 (some q28))))))) := by rw [hu60]; exact (va_up_ne _ _ (Nat.ne_of_lt l_q1_q16)).trans f_q1
  replace f_q35 : u60 q35 = some (.inl (cs 0, 12, .inl (fun _ => 0))) := by rw [hu60]; exact (va_up_ne _ _ (Nat.ne_of_gt l_q16_q35)).trans f_q35
  replace f_q32 : u60 q32 = some (.inr (0, [.ref q35, .int (-1)])) := by rw [hu60]; exact (va_up_ne _ _ (Nat.ne_of_gt l_q16_q32)).trans f_q32
  replace f_q4 : u60 q4 = some (.inl (cs 3, 4, .inr (.inr (.inr (.inr (va_up (fun _ => none) 0 (some q32))))))) := by rw [hu60]; exact (va_up_ne _ _ (Nat.ne_of_lt l_q4_q16)).trans f_q4
  replace f_q42 : u60 q42 = some (.inl (cs 7, 12, .inr (.inr (.inr (.inr (fun _ => none)))))) := by rw [hu60]; exact (va_up_ne _ _ (Nat.ne_of_gt l_q16_q42)).trans f_q42
  replace f_q39 : u60 q39 = some (.inr (3, [.ref q42, .int (-1), .int 0])) := by rw [hu60]; exact (va_up_ne _ _ (Nat.ne_of_gt l_q16_q39)).trans f_q39
  replace f_q7 : u60 q7 = some (.inl (cs 4, 4, .inr (.inr (.inr (.inr (va_up (fun _ => none) 0 (some q39))))))) := by rw [hu60]; exact (va_up_ne _ _ (Nat.ne_of_lt l_q7_q16)).trans f_q7
  replace f_q49 : u60 q49 = some (.inl (cs 0, 144, .inl (fun _ => 0))) := by rw [hu60]; exact (va_up_ne _ _ (Nat.ne_of_gt l_q16_q49)).trans f_q49
  replace f_q46 : u60 q46 = some (.inr (1, [.ref q49, .int (-1), .int 0])) := by rw [hu60]; exact (va_up_ne _ _ (Nat.ne_of_gt l_q16_q46)).trans f_q46
  replace f_q10 : u60 q10 = some (.inl (cs 5, 4, .inr (.inr (.inr (.inr (va_up (fun _ => none) 0 (some q46))))))) := by rw [hu60]; exact (va_up_ne _ _ (Nat.ne_of_lt l_q10_q16)).trans f_q10
  replace f_q56 : u60 q56 = some (.inl (cs 8, 16, .inr (.inr (.inr (.inr (fun _ => none)))))) := by rw [hu60]; exact (va_up_ne _ _ (Nat.ne_of_gt l_q16_q56)).trans f_q56
  replace f_q53 : u60 q53 = some (.inr (2, [.ref q56, .int 0])) := by rw [hu60]; exact (va_up_ne _ _ (Nat.ne_of_gt l_q16_q53)).trans f_q53
  replace f_q13 : u60 q13 = some (.inl (cs 6, 4, .inr (.inr (.inr (.inr (va_up (fun _ => none) 0 (some q53))))))) := by rw [hu60]; exact (va_up_ne _ _ (Nat.ne_of_lt l_q13_q16)).trans f_q13
  replace f_q16 : u60 q16 = some (.inl (cs 0, 4, .inl (upd (fun _ => 0) 0 1))) := by rw [hu60]; exact va_up_self _ _ _
  refine lv_iinc (v := 1) (lv' := [(1, .int 1), (0, .ref h0)]) hx hb dX8_init_149 hl (k := 0) rfl (by decide) (by decide) rfl (fun ls hl => ?_)
  refine lv_goto (tgt := 72) hx hb dX8_init_152 (by decide) ?_
  refine lv_iload_n hx hb dX8_init_72 rfl (lv_at hl 0 rfl) ?_
  refine lv_iconst (v := 4) hx hb dX8_init_73 (by decide) ?_
  refine lv_icmp_ge (tgt := 155) hx hb dX8_init_74 (by decide) (fun h => absurd h (by decide)) (fun _ => ?_)
  refine lv_aload_n hx hb dX8_init_77 rfl (lv_at hl 1 rfl) ?_
  refine fw_get X gC_ok hF f_h0 rfl 0 (by decide) wm_176 rfl dX8_init_78 ?_
  refine lv_iload_n hx hb dX8_init_81 rfl (lv_at hl 0 rfl) ?_
  have m_q19 := hF.lt f_q19
  have m_q22 := hF.lt f_q22
  have m_h0 := hF.lt f_h0
  have m_q28 := hF.lt f_q28
  have m_q1 := hF.lt f_q1
  have m_q35 := hF.lt f_q35
  have m_q32 := hF.lt f_q32
  have m_q4 := hF.lt f_q4
  have m_q42 := hF.lt f_q42
  have m_q39 := hF.lt f_q39
  have m_q7 := hF.lt f_q7
  have m_q49 := hF.lt f_q49
  have m_q46 := hF.lt f_q46
  have m_q10 := hF.lt f_q10
  have m_q56 := hF.lt f_q56
  have m_q53 := hF.lt f_q53
  have m_q13 := hF.lt f_q13
  have m_q16 := hF.lt f_q16
  refine fw_new (ci := 5) (fs := [.int 0, .int 0, .null, .null, .int 0, .int 0]) X gC_ok hF hS rfl tyX5 tyX5_ok (by decide +kernel) wm_44 wm_86 wm_27 (Nat.le_of_ble_eq_true rfl) (Nat.le_of_ble_eq_true rfl) dX8_init_82 (fun q62 H nq62 zq62 zzq62 hF hS => ?_)
  have l_q19_q62 : q19 < q62 := Nat.lt_of_lt_of_le m_q19 (Nat.le_of_eq zq62.symm)
  have l_q22_q62 : q22 < q62 := Nat.lt_of_lt_of_le m_q22 (Nat.le_of_eq zq62.symm)
  have l_h0_q62 : h0 < q62 := Nat.lt_of_lt_of_le m_h0 (Nat.le_of_eq zq62.symm)
  have l_q28_q62 : q28 < q62 := Nat.lt_of_lt_of_le m_q28 (Nat.le_of_eq zq62.symm)
  have l_q1_q62 : q1 < q62 := Nat.lt_of_lt_of_le m_q1 (Nat.le_of_eq zq62.symm)
  have l_q35_q62 : q35 < q62 := Nat.lt_of_lt_of_le m_q35 (Nat.le_of_eq zq62.symm)
  have l_q32_q62 : q32 < q62 := Nat.lt_of_lt_of_le m_q32 (Nat.le_of_eq zq62.symm)
  have l_q4_q62 : q4 < q62 := Nat.lt_of_lt_of_le m_q4 (Nat.le_of_eq zq62.symm)
  have l_q42_q62 : q42 < q62 := Nat.lt_of_lt_of_le m_q42 (Nat.le_of_eq zq62.symm)
  have l_q39_q62 : q39 < q62 := Nat.lt_of_lt_of_le m_q39 (Nat.le_of_eq zq62.symm)
  have l_q7_q62 : q7 < q62 := Nat.lt_of_lt_of_le m_q7 (Nat.le_of_eq zq62.symm)
  have l_q49_q62 : q49 < q62 := Nat.lt_of_lt_of_le m_q49 (Nat.le_of_eq zq62.symm)
  have l_q46_q62 : q46 < q62 := Nat.lt_of_lt_of_le m_q46 (Nat.le_of_eq zq62.symm)
  have l_q10_q62 : q10 < q62 := Nat.lt_of_lt_of_le m_q10 (Nat.le_of_eq zq62.symm)
  have l_q56_q62 : q56 < q62 := Nat.lt_of_lt_of_le m_q56 (Nat.le_of_eq zq62.symm)
  have l_q53_q62 : q53 < q62 := Nat.lt_of_lt_of_le m_q53 (Nat.le_of_eq zq62.symm)
  have l_q13_q62 : q13 < q62 := Nat.lt_of_lt_of_le m_q13 (Nat.le_of_eq zq62.symm)
  have l_q16_q62 : q16 < q62 := Nat.lt_of_lt_of_le m_q16 (Nat.le_of_eq zq62.symm)
  clear m_q19 m_q22 m_h0 m_q28 m_q1 m_q35 m_q32 m_q4 m_q42 m_q39 m_q7 m_q49 m_q46 m_q10 m_q56 m_q53 m_q13 m_q16
  have hF : fw_P D cls10 A (va_up u60 q62 (some (.inr (5, [.int 0, .int 0, .null, .null, .int 0, .int 0])))) H := hF
  obtain ⟨u63, hu63⟩ : ∃ y : fW, y = va_up u60 q62 (some (.inr (5, [.int 0, .int 0, .null, .null, .int 0, .int 0]))) := ⟨_, rfl⟩
  rw [← hu63] at hF
  replace f_q19 : u63 q19 = some (.inl (cs 0, 8, .inl (fun _ => 0))) := by rw [hu63]; exact (va_up_ne _ _ (Nat.ne_of_lt l_q19_q62)).trans f_q19
  replace f_q22 : u63 q22 = some (.inr (4, [.int 0, .int 0, .int 0, .int (-1), .int 0, .long 0])) := by rw [hu63]; exact (va_up_ne _ _ (Nat.ne_of_lt l_q22_q62)).trans f_q22
  replace f_h0 : u63 h0 = some (.inr (8, [.ref q1, .ref q4, .ref q7, .ref q10, .ref q13, .ref q16, .ref q19, .ref q22])) := by rw [hu63]; exact (va_up_ne _ _ (Nat.ne_of_lt l_h0_q62)).trans f_h0
  replace f_q28 : u63 q28 = some (.inr (5, [.int 0, .int 0, .null, .null, .int 0, .int 0])) := by rw [hu63]; exact (va_up_ne _ _ (Nat.ne_of_lt l_q28_q62)).trans f_q28
  replace f_q1 : u63 q1 = some (.inl (cs 2, 4, .inr (.inr (.inr (.inr (va_up (fun _ => none) 0 (some q28))))))) := by rw [hu63]; exact (va_up_ne _ _ (Nat.ne_of_lt l_q1_q62)).trans f_q1
  replace f_q35 : u63 q35 = some (.inl (cs 0, 12, .inl (fun _ => 0))) := by rw [hu63]; exact (va_up_ne _ _ (Nat.ne_of_lt l_q35_q62)).trans f_q35
  replace f_q32 : u63 q32 = some (.inr (0, [.ref q35, .int (-1)])) := by rw [hu63]; exact (va_up_ne _ _ (Nat.ne_of_lt l_q32_q62)).trans f_q32
  replace f_q4 : u63 q4 = some (.inl (cs 3, 4, .inr (.inr (.inr (.inr (va_up (fun _ => none) 0 (some q32))))))) := by rw [hu63]; exact (va_up_ne _ _ (Nat.ne_of_lt l_q4_q62)).trans f_q4
  replace f_q42 : u63 q42 = some (.inl (cs 7, 12, .inr (.inr (.inr (.inr (fun _ => none)))))) := by rw [hu63]; exact (va_up_ne _ _ (Nat.ne_of_lt l_q42_q62)).trans f_q42
  replace f_q39 : u63 q39 = some (.inr (3, [.ref q42, .int (-1), .int 0])) := by rw [hu63]; exact (va_up_ne _ _ (Nat.ne_of_lt l_q39_q62)).trans f_q39
  replace f_q7 : u63 q7 = some (.inl (cs 4, 4, .inr (.inr (.inr (.inr (va_up (fun _ => none) 0 (some q39))))))) := by rw [hu63]; exact (va_up_ne _ _ (Nat.ne_of_lt l_q7_q62)).trans f_q7
  replace f_q49 : u63 q49 = some (.inl (cs 0, 144, .inl (fun _ => 0))) := by rw [hu63]; exact (va_up_ne _ _ (Nat.ne_of_lt l_q49_q62)).trans f_q49
  replace f_q46 : u63 q46 = some (.inr (1, [.ref q49, .int (-1), .int 0])) := by rw [hu63]; exact (va_up_ne _ _ (Nat.ne_of_lt l_q46_q62)).trans f_q46
  replace f_q10 : u63 q10 = some (.inl (cs 5, 4, .inr (.inr (.inr (.inr (va_up (fun _ => none) 0 (some q46))))))) := by rw [hu63]; exact (va_up_ne _ _ (Nat.ne_of_lt l_q10_q62)).trans f_q10
  replace f_q56 : u63 q56 = some (.inl (cs 8, 16, .inr (.inr (.inr (.inr (fun _ => none)))))) := by rw [hu63]; exact (va_up_ne _ _ (Nat.ne_of_lt l_q56_q62)).trans f_q56
  replace f_q53 : u63 q53 = some (.inr (2, [.ref q56, .int 0])) := by rw [hu63]; exact (va_up_ne _ _ (Nat.ne_of_lt l_q53_q62)).trans f_q53
  replace f_q13 : u63 q13 = some (.inl (cs 6, 4, .inr (.inr (.inr (.inr (va_up (fun _ => none) 0 (some q53))))))) := by rw [hu63]; exact (va_up_ne _ _ (Nat.ne_of_lt l_q13_q62)).trans f_q13
  replace f_q16 : u63 q16 = some (.inl (cs 0, 4, .inl (upd (fun _ => 0) 0 1))) := by rw [hu63]; exact (va_up_ne _ _ (Nat.ne_of_lt l_q16_q62)).trans f_q16
  have f_q62 : u63 q62 = some (.inr (5, [.int 0, .int 0, .null, .null, .int 0, .int 0])) := by rw [hu63]; exact va_up_self _ _ _
  refine lv_dup hx hb dX8_init_85 rfl ?_
  refine fw_callIN (As := []) (rest := [.ref q62, .int 1, .ref q1]) X bs_all nw_all mf_X5_init (c_X5_init l D cs _ _ q62 false 0 none none 0 0 f_q62) nm_87 wm_88 rfl hF hS rfl ((⟨⟨Nat.le_of_ble_eq_true rfl, Nat.le_of_ble_eq_true rfl⟩, Nat.le_of_ble_eq_true rfl, Nat.le_of_ble_eq_true rfl⟩)) rfl hl.1 rfl (Nat.le_of_ble_eq_true rfl) dX8_init_86 (fun v u64 H locs hp hF hS hz1 hk1 hd1 => ?_)
  obtain ⟨hv1, hw1⟩ := hp
  subst hv1
  rw [hw1] at hF
  clear hw1 hd1 hk1
  refine W.eq (g2 := F0 m 89 ls [.ref q62, .int 1, .ref q1]) rfl ?_
  refine fw_astq X hF hS f_q1 2 rfl f_q62 rfl (vp_in_iff.mpr (by decide)) dX8_init_89 (fun H locs hF hS => ?_)
  have hF : fw_P D cls10 A (va_up u63 q1 (some (.inl (cs 2, 4, .inr (.inr (.inr (.inr (va_up (va_up (fun _ => none) 0 (some q28)) 1 (some q62))))))))) H := hF
  obtain ⟨u65, hu65⟩ : ∃ y : fW, y = va_up u63 q1 (some (.inl (cs 2, 4, .inr (.inr (.inr (.inr (va_up (va_up (fun _ => none) 0 (some q28)) 1 (some q62)))))))) := ⟨_, rfl⟩
  rw [← hu65] at hF
  replace f_q19 : u65 q19 = some (.inl (cs 0, 8, .inl (fun _ => 0))) := by rw [hu65]; exact (va_up_ne _ _ (Nat.ne_of_gt l_q1_q19)).trans f_q19
  replace f_q22 : u65 q22 = some (.inr (4, [.int 0, .int 0, .int 0, .int (-1), .int 0, .long 0])) := by rw [hu65]; exact (va_up_ne _ _ (Nat.ne_of_gt l_q1_q22)).trans f_q22
  replace f_h0 : u65 h0 = some (.inr (8, [.ref q1, .ref q4, .ref q7, .ref q10, .ref q13, .ref q16, .ref q19, .ref q22])) := by rw [hu65]; exact (va_up_ne _ _ (Nat.ne_of_lt l_h0_q1)).trans f_h0
  replace f_q28 : u65 q28 = some (.inr (5, [.int 0, .int 0, .null, .null, .int 0, .int 0])) := by rw [hu65]; exact (va_up_ne _ _ (Nat.ne_of_gt l_q1_q28)).trans f_q28
  replace f_q35 : u65 q35 = some (.inl (cs 0, 12, .inl (fun _ => 0))) := by rw [hu65]; exact (va_up_ne _ _ (Nat.ne_of_gt l_q1_q35)).trans f_q35
  replace f_q32 : u65 q32 = some (.inr (0, [.ref q35, .int (-1)])) := by rw [hu65]; exact (va_up_ne _ _ (Nat.ne_of_gt l_q1_q32)).trans f_q32
  replace f_q4 : u65 q4 = some (.inl (cs 3, 4, .inr (.inr (.inr (.inr (va_up (fun _ => none) 0 (some q32))))))) := by rw [hu65]; exact (va_up_ne _ _ (Nat.ne_of_gt l_q1_q4)).trans f_q4
  replace f_q42 : u65 q42 = some (.inl (cs 7, 12, .inr (.inr (.inr (.inr (fun _ => none)))))) := by rw [hu65]; exact (va_up_ne _ _ (Nat.ne_of_gt l_q1_q42)).trans f_q42
  replace f_q39 : u65 q39 = some (.inr (3, [.ref q42, .int (-1), .int 0])) := by rw [hu65]; exact (va_up_ne _ _ (Nat.ne_of_gt l_q1_q39)).trans f_q39
  replace f_q7 : u65 q7 = some (.inl (cs 4, 4, .inr (.inr (.inr (.inr (va_up (fun _ => none) 0 (some q39))))))) := by rw [hu65]; exact (va_up_ne _ _ (Nat.ne_of_gt l_q1_q7)).trans f_q7
  replace f_q49 : u65 q49 = some (.inl (cs 0, 144, .inl (fun _ => 0))) := by rw [hu65]; exact (va_up_ne _ _ (Nat.ne_of_gt l_q1_q49)).trans f_q49
  replace f_q46 : u65 q46 = some (.inr (1, [.ref q49, .int (-1), .int 0])) := by rw [hu65]; exact (va_up_ne _ _ (Nat.ne_of_gt l_q1_q46)).trans f_q46
  replace f_q10 : u65 q10 = some (.inl (cs 5, 4, .inr (.inr (.inr (.inr (va_up (fun _ => none) 0 (some q46))))))) := by rw [hu65]; exact (va_up_ne _ _ (Nat.ne_of_gt l_q1_q10)).trans f_q10
  replace f_q56 : u65 q56 = some (.inl (cs 8, 16, .inr (.inr (.inr (.inr (fun _ => none)))))) := by rw [hu65]; exact (va_up_ne _ _ (Nat.ne_of_gt l_q1_q56)).trans f_q56
  replace f_q53 : u65 q53 = some (.inr (2, [.ref q56, .int 0])) := by rw [hu65]; exact (va_up_ne _ _ (Nat.ne_of_gt l_q1_q53)).trans f_q53
  replace f_q13 : u65 q13 = some (.inl (cs 6, 4, .inr (.inr (.inr (.inr (va_up (fun _ => none) 0 (some q53))))))) := by rw [hu65]; exact (va_up_ne _ _ (Nat.ne_of_gt l_q1_q13)).trans f_q13
  replace f_q16 : u65 q16 = some (.inl (cs 0, 4, .inl (upd (fun _ => 0) 0 1))) := by rw [hu65]; exact (va_up_ne _ _ (Nat.ne_of_gt l_q1_q16)).trans f_q16
  replace f_q62 : u65 q62 = some (.inr (5, [.int 0, .int 0, .null, .null, .int 0, .int 0])) := by rw [hu65]; exact (va_up_ne _ _ (Nat.ne_of_gt l_q1_q62)).trans f_q62
  replace f_q1 : u65 q1 = some (.inl (cs 2, 4, .inr (.inr (.inr (.inr (va_up (va_up (fun _ => none) 0 (some q28)) 1 (some q62))))))) := by rw [hu65]; exact va_up_self _ _ _
  refine lv_aload_n hx hb dX8_init_90 rfl (lv_at hl 1 rfl) ?_
  refine fw_get X gC_ok hF f_h0 rfl 1 (by decide) wm_177 rfl dX8_init_91 ?_
  refine lv_iload_n hx hb dX8_init_94 rfl (lv_at hl 0 rfl) ?_
  have m_q19 := hF.lt f_q19
  have m_q22 := hF.lt f_q22
  have m_h0 := hF.lt f_h0
  have m_q28 := hF.lt f_q28
  have m_q35 := hF.lt f_q35
  have m_q32 := hF.lt f_q32
  have m_q4 := hF.lt f_q4
  have m_q42 := hF.lt f_q42
  have m_q39 := hF.lt f_q39
  have m_q7 := hF.lt f_q7
  have m_q49 := hF.lt f_q49
  have m_q46 := hF.lt f_q46
  have m_q10 := hF.lt f_q10
  have m_q56 := hF.lt f_q56
  have m_q53 := hF.lt f_q53
  have m_q13 := hF.lt f_q13
  have m_q16 := hF.lt f_q16
  have m_q62 := hF.lt f_q62
  have m_q1 := hF.lt f_q1
  refine fw_new (ci := 0) (fs := [.null, .int 0]) X gC_ok hF hS rfl tyX0 tyX0_ok (by decide +kernel) wm_46 wm_114 wm_28 (Nat.le_of_ble_eq_true rfl) (Nat.le_of_ble_eq_true rfl) dX8_init_95 (fun q66 H nq66 zq66 zzq66 hF hS => ?_)
  have l_q19_q66 : q19 < q66 := Nat.lt_of_lt_of_le m_q19 (Nat.le_of_eq zq66.symm)
  have l_q22_q66 : q22 < q66 := Nat.lt_of_lt_of_le m_q22 (Nat.le_of_eq zq66.symm)
  have l_h0_q66 : h0 < q66 := Nat.lt_of_lt_of_le m_h0 (Nat.le_of_eq zq66.symm)
  have l_q28_q66 : q28 < q66 := Nat.lt_of_lt_of_le m_q28 (Nat.le_of_eq zq66.symm)
  have l_q35_q66 : q35 < q66 := Nat.lt_of_lt_of_le m_q35 (Nat.le_of_eq zq66.symm)
  have l_q32_q66 : q32 < q66 := Nat.lt_of_lt_of_le m_q32 (Nat.le_of_eq zq66.symm)
  have l_q4_q66 : q4 < q66 := Nat.lt_of_lt_of_le m_q4 (Nat.le_of_eq zq66.symm)
  have l_q42_q66 : q42 < q66 := Nat.lt_of_lt_of_le m_q42 (Nat.le_of_eq zq66.symm)
  have l_q39_q66 : q39 < q66 := Nat.lt_of_lt_of_le m_q39 (Nat.le_of_eq zq66.symm)
  have l_q7_q66 : q7 < q66 := Nat.lt_of_lt_of_le m_q7 (Nat.le_of_eq zq66.symm)
  have l_q49_q66 : q49 < q66 := Nat.lt_of_lt_of_le m_q49 (Nat.le_of_eq zq66.symm)
  have l_q46_q66 : q46 < q66 := Nat.lt_of_lt_of_le m_q46 (Nat.le_of_eq zq66.symm)
  have l_q10_q66 : q10 < q66 := Nat.lt_of_lt_of_le m_q10 (Nat.le_of_eq zq66.symm)
  have l_q56_q66 : q56 < q66 := Nat.lt_of_lt_of_le m_q56 (Nat.le_of_eq zq66.symm)
  have l_q53_q66 : q53 < q66 := Nat.lt_of_lt_of_le m_q53 (Nat.le_of_eq zq66.symm)
  have l_q13_q66 : q13 < q66 := Nat.lt_of_lt_of_le m_q13 (Nat.le_of_eq zq66.symm)
  have l_q16_q66 : q16 < q66 := Nat.lt_of_lt_of_le m_q16 (Nat.le_of_eq zq66.symm)
  have l_q62_q66 : q62 < q66 := Nat.lt_of_lt_of_le m_q62 (Nat.le_of_eq zq66.symm)
  have l_q1_q66 : q1 < q66 := Nat.lt_of_lt_of_le m_q1 (Nat.le_of_eq zq66.symm)
  clear m_q19 m_q22 m_h0 m_q28 m_q35 m_q32 m_q4 m_q42 m_q39 m_q7 m_q49 m_q46 m_q10 m_q56 m_q53 m_q13 m_q16 m_q62 m_q1
  have hF : fw_P D cls10 A (va_up u65 q66 (some (.inr (0, [.null, .int 0])))) H := hF
  obtain ⟨u67, hu67⟩ : ∃ y : fW, y = va_up u65 q66 (some (.inr (0, [.null, .int 0]))) := ⟨_, rfl⟩
  rw [← hu67] at hF
  replace f_q19 : u67 q19 = some (.inl (cs 0, 8, .inl (fun _ => 0))) := by rw [hu67]; exact (va_up_ne _ _ (Nat.ne_of_lt l_q19_q66)).trans f_q19
  replace f_q22 : u67 q22 = some (.inr (4, [.int 0, .int 0, .int 0, .int (-1), .int 0, .long 0])) := by rw [hu67]; exact (va_up_ne _ _ (Nat.ne_of_lt l_q22_q66)).trans f_q22
  replace f_h0 : u67 h0 = some (.inr (8, [.ref q1, .ref q4, .ref q7, .ref q10, .ref q13, .ref q16, .ref q19, .ref q22])) := by rw [hu67]; exact (va_up_ne _ _ (Nat.ne_of_lt l_h0_q66)).trans f_h0
  replace f_q28 : u67 q28 = some (.inr (5, [.int 0, .int 0, .null, .null, .int 0, .int 0])) := by rw [hu67]; exact (va_up_ne _ _ (Nat.ne_of_lt l_q28_q66)).trans f_q28
  replace f_q35 : u67 q35 = some (.inl (cs 0, 12, .inl (fun _ => 0))) := by rw [hu67]; exact (va_up_ne _ _ (Nat.ne_of_lt l_q35_q66)).trans f_q35
  replace f_q32 : u67 q32 = some (.inr (0, [.ref q35, .int (-1)])) := by rw [hu67]; exact (va_up_ne _ _ (Nat.ne_of_lt l_q32_q66)).trans f_q32
  replace f_q4 : u67 q4 = some (.inl (cs 3, 4, .inr (.inr (.inr (.inr (va_up (fun _ => none) 0 (some q32))))))) := by rw [hu67]; exact (va_up_ne _ _ (Nat.ne_of_lt l_q4_q66)).trans f_q4
  replace f_q42 : u67 q42 = some (.inl (cs 7, 12, .inr (.inr (.inr (.inr (fun _ => none)))))) := by rw [hu67]; exact (va_up_ne _ _ (Nat.ne_of_lt l_q42_q66)).trans f_q42
  replace f_q39 : u67 q39 = some (.inr (3, [.ref q42, .int (-1), .int 0])) := by rw [hu67]; exact (va_up_ne _ _ (Nat.ne_of_lt l_q39_q66)).trans f_q39
  replace f_q7 : u67 q7 = some (.inl (cs 4, 4, .inr (.inr (.inr (.inr (va_up (fun _ => none) 0 (some q39))))))) := by rw [hu67]; exact (va_up_ne _ _ (Nat.ne_of_lt l_q7_q66)).trans f_q7
  replace f_q49 : u67 q49 = some (.inl (cs 0, 144, .inl (fun _ => 0))) := by rw [hu67]; exact (va_up_ne _ _ (Nat.ne_of_lt l_q49_q66)).trans f_q49
  replace f_q46 : u67 q46 = some (.inr (1, [.ref q49, .int (-1), .int 0])) := by rw [hu67]; exact (va_up_ne _ _ (Nat.ne_of_lt l_q46_q66)).trans f_q46
  replace f_q10 : u67 q10 = some (.inl (cs 5, 4, .inr (.inr (.inr (.inr (va_up (fun _ => none) 0 (some q46))))))) := by rw [hu67]; exact (va_up_ne _ _ (Nat.ne_of_lt l_q10_q66)).trans f_q10
  replace f_q56 : u67 q56 = some (.inl (cs 8, 16, .inr (.inr (.inr (.inr (fun _ => none)))))) := by rw [hu67]; exact (va_up_ne _ _ (Nat.ne_of_lt l_q56_q66)).trans f_q56
  replace f_q53 : u67 q53 = some (.inr (2, [.ref q56, .int 0])) := by rw [hu67]; exact (va_up_ne _ _ (Nat.ne_of_lt l_q53_q66)).trans f_q53
  replace f_q13 : u67 q13 = some (.inl (cs 6, 4, .inr (.inr (.inr (.inr (va_up (fun _ => none) 0 (some q53))))))) := by rw [hu67]; exact (va_up_ne _ _ (Nat.ne_of_lt l_q13_q66)).trans f_q13
  replace f_q16 : u67 q16 = some (.inl (cs 0, 4, .inl (upd (fun _ => 0) 0 1))) := by rw [hu67]; exact (va_up_ne _ _ (Nat.ne_of_lt l_q16_q66)).trans f_q16
  replace f_q62 : u67 q62 = some (.inr (5, [.int 0, .int 0, .null, .null, .int 0, .int 0])) := by rw [hu67]; exact (va_up_ne _ _ (Nat.ne_of_lt l_q62_q66)).trans f_q62
  replace f_q1 : u67 q1 = some (.inl (cs 2, 4, .inr (.inr (.inr (.inr (va_up (va_up (fun _ => none) 0 (some q28)) 1 (some q62))))))) := by rw [hu67]; exact (va_up_ne _ _ (Nat.ne_of_lt l_q1_q66)).trans f_q1
  have f_q66 : u67 q66 = some (.inr (0, [.null, .int 0])) := by rw [hu67]; exact va_up_self _ _ _
  refine lv_dup hx hb dX8_init_98 rfl ?_
  have m_q19 := hF.lt f_q19
  have m_q22 := hF.lt f_q22
  have m_h0 := hF.lt f_h0
  have m_q28 := hF.lt f_q28
  have m_q35 := hF.lt f_q35
  have m_q32 := hF.lt f_q32
  have m_q4 := hF.lt f_q4
  have m_q42 := hF.lt f_q42
  have m_q39 := hF.lt f_q39
  have m_q7 := hF.lt f_q7
  have m_q49 := hF.lt f_q49
  have m_q46 := hF.lt f_q46
  have m_q10 := hF.lt f_q10
  have m_q56 := hF.lt f_q56
  have m_q53 := hF.lt f_q53
  have m_q13 := hF.lt f_q13
  have m_q16 := hF.lt f_q16
  have m_q62 := hF.lt f_q62
  have m_q1 := hF.lt f_q1
  have m_q66 := hF.lt f_q66
  refine fw_callIN (As := []) (rest := [.ref q66, .int 1, .ref q4]) X bs_all nw_all mf_X0_init (c_X0_init l D cs _ _ q66 f_q66) nm_115 wm_116 rfl hF hS rfl ((⟨⟨Nat.le_of_ble_eq_true rfl, Nat.le_of_ble_eq_true rfl⟩, Nat.le_of_ble_eq_true rfl, Nat.le_of_ble_eq_true rfl⟩)) rfl hl.1 rfl (Nat.le_of_ble_eq_true rfl) dX8_init_99 (fun v u68 H locs hp hF hS hz1 hk1 hd1 => ?_)
  obtain ⟨hv1, q69, nq69, hw1⟩ := hp
  subst hv1
  have leq69 := (hd1 q69 (by rw [hw1, va_up_ne _ _ (Ne.symm (gx_ne f_q66 nq69)), va_up_self]; exact fun z => by cases z)).resolve_left (fun z => z nq69)
  have l_q19_q69 : q19 < q69 := Nat.lt_of_lt_of_le m_q19 leq69
  have l_q22_q69 : q22 < q69 := Nat.lt_of_lt_of_le m_q22 leq69
  have l_h0_q69 : h0 < q69 := Nat.lt_of_lt_of_le m_h0 leq69
  have l_q28_q69 : q28 < q69 := Nat.lt_of_lt_of_le m_q28 leq69
  have l_q35_q69 : q35 < q69 := Nat.lt_of_lt_of_le m_q35 leq69
  have l_q32_q69 : q32 < q69 := Nat.lt_of_lt_of_le m_q32 leq69
  have l_q4_q69 : q4 < q69 := Nat.lt_of_lt_of_le m_q4 leq69
  have l_q42_q69 : q42 < q69 := Nat.lt_of_lt_of_le m_q42 leq69
  have l_q39_q69 : q39 < q69 := Nat.lt_of_lt_of_le m_q39 leq69
  have l_q7_q69 : q7 < q69 := Nat.lt_of_lt_of_le m_q7 leq69
  have l_q49_q69 : q49 < q69 := Nat.lt_of_lt_of_le m_q49 leq69
  have l_q46_q69 : q46 < q69 := Nat.lt_of_lt_of_le m_q46 leq69
  have l_q10_q69 : q10 < q69 := Nat.lt_of_lt_of_le m_q10 leq69
  have l_q56_q69 : q56 < q69 := Nat.lt_of_lt_of_le m_q56 leq69
  have l_q53_q69 : q53 < q69 := Nat.lt_of_lt_of_le m_q53 leq69
  have l_q13_q69 : q13 < q69 := Nat.lt_of_lt_of_le m_q13 leq69
  have l_q16_q69 : q16 < q69 := Nat.lt_of_lt_of_le m_q16 leq69
  have l_q62_q69 : q62 < q69 := Nat.lt_of_lt_of_le m_q62 leq69
  have l_q1_q69 : q1 < q69 := Nat.lt_of_lt_of_le m_q1 leq69
  have l_q66_q69 : q66 < q69 := Nat.lt_of_lt_of_le m_q66 leq69
  clear m_q19 m_q22 m_h0 m_q28 m_q35 m_q32 m_q4 m_q42 m_q39 m_q7 m_q49 m_q46 m_q10 m_q56 m_q53 m_q13 m_q16 m_q62 m_q1 m_q66
  rw [hw1] at hF
  clear hw1 hd1 hk1
  obtain ⟨u70, hu70⟩ : ∃ y : fW, y = va_up u67 q69 (some (.inl (cs 0, 12, .inl (fun _ => 0)))) := ⟨_, rfl⟩
  rw [← hu70] at hF
  replace f_q19 : u70 q19 = some (.inl (cs 0, 8, .inl (fun _ => 0))) := by rw [hu70]; exact (va_up_ne _ _ (Nat.ne_of_lt l_q19_q69)).trans f_q19
  replace f_q22 : u70 q22 = some (.inr (4, [.int 0, .int 0, .int 0, .int (-1), .int 0, .long 0])) := by rw [hu70]; exact (va_up_ne _ _ (Nat.ne_of_lt l_q22_q69)).trans f_q22
  replace f_h0 : u70 h0 = some (.inr (8, [.ref q1, .ref q4, .ref q7, .ref q10, .ref q13, .ref q16, .ref q19, .ref q22])) := by rw [hu70]; exact (va_up_ne _ _ (Nat.ne_of_lt l_h0_q69)).trans f_h0
  replace f_q28 : u70 q28 = some (.inr (5, [.int 0, .int 0, .null, .null, .int 0, .int 0])) := by rw [hu70]; exact (va_up_ne _ _ (Nat.ne_of_lt l_q28_q69)).trans f_q28
  replace f_q35 : u70 q35 = some (.inl (cs 0, 12, .inl (fun _ => 0))) := by rw [hu70]; exact (va_up_ne _ _ (Nat.ne_of_lt l_q35_q69)).trans f_q35
  replace f_q32 : u70 q32 = some (.inr (0, [.ref q35, .int (-1)])) := by rw [hu70]; exact (va_up_ne _ _ (Nat.ne_of_lt l_q32_q69)).trans f_q32
  replace f_q4 : u70 q4 = some (.inl (cs 3, 4, .inr (.inr (.inr (.inr (va_up (fun _ => none) 0 (some q32))))))) := by rw [hu70]; exact (va_up_ne _ _ (Nat.ne_of_lt l_q4_q69)).trans f_q4
  replace f_q42 : u70 q42 = some (.inl (cs 7, 12, .inr (.inr (.inr (.inr (fun _ => none)))))) := by rw [hu70]; exact (va_up_ne _ _ (Nat.ne_of_lt l_q42_q69)).trans f_q42
  replace f_q39 : u70 q39 = some (.inr (3, [.ref q42, .int (-1), .int 0])) := by rw [hu70]; exact (va_up_ne _ _ (Nat.ne_of_lt l_q39_q69)).trans f_q39
  replace f_q7 : u70 q7 = some (.inl (cs 4, 4, .inr (.inr (.inr (.inr (va_up (fun _ => none) 0 (some q39))))))) := by rw [hu70]; exact (va_up_ne _ _ (Nat.ne_of_lt l_q7_q69)).trans f_q7
  replace f_q49 : u70 q49 = some (.inl (cs 0, 144, .inl (fun _ => 0))) := by rw [hu70]; exact (va_up_ne _ _ (Nat.ne_of_lt l_q49_q69)).trans f_q49
  replace f_q46 : u70 q46 = some (.inr (1, [.ref q49, .int (-1), .int 0])) := by rw [hu70]; exact (va_up_ne _ _ (Nat.ne_of_lt l_q46_q69)).trans f_q46
  replace f_q10 : u70 q10 = some (.inl (cs 5, 4, .inr (.inr (.inr (.inr (va_up (fun _ => none) 0 (some q46))))))) := by rw [hu70]; exact (va_up_ne _ _ (Nat.ne_of_lt l_q10_q69)).trans f_q10
  replace f_q56 : u70 q56 = some (.inl (cs 8, 16, .inr (.inr (.inr (.inr (fun _ => none)))))) := by rw [hu70]; exact (va_up_ne _ _ (Nat.ne_of_lt l_q56_q69)).trans f_q56
  replace f_q53 : u70 q53 = some (.inr (2, [.ref q56, .int 0])) := by rw [hu70]; exact (va_up_ne _ _ (Nat.ne_of_lt l_q53_q69)).trans f_q53
  replace f_q13 : u70 q13 = some (.inl (cs 6, 4, .inr (.inr (.inr (.inr (va_up (fun _ => none) 0 (some q53))))))) := by rw [hu70]; exact (va_up_ne _ _ (Nat.ne_of_lt l_q13_q69)).trans f_q13
  replace f_q16 : u70 q16 = some (.inl (cs 0, 4, .inl (upd (fun _ => 0) 0 1))) := by rw [hu70]; exact (va_up_ne _ _ (Nat.ne_of_lt l_q16_q69)).trans f_q16
  replace f_q62 : u70 q62 = some (.inr (5, [.int 0, .int 0, .null, .null, .int 0, .int 0])) := by rw [hu70]; exact (va_up_ne _ _ (Nat.ne_of_lt l_q62_q69)).trans f_q62
  replace f_q1 : u70 q1 = some (.inl (cs 2, 4, .inr (.inr (.inr (.inr (va_up (va_up (fun _ => none) 0 (some q28)) 1 (some q62))))))) := by rw [hu70]; exact (va_up_ne _ _ (Nat.ne_of_lt l_q1_q69)).trans f_q1
  replace f_q66 : u70 q66 = some (.inr (0, [.null, .int 0])) := by rw [hu70]; exact (va_up_ne _ _ (Nat.ne_of_lt l_q66_q69)).trans f_q66
  have f_q69 : u70 q69 = some (.inl (cs 0, 12, .inl (fun _ => 0))) := by rw [hu70]; exact va_up_self _ _ _
  obtain ⟨u71, hu71⟩ : ∃ y : fW, y = va_up u70 q66 (some (.inr (0, [.ref q69, .int (-1)]))) := ⟨_, rfl⟩
  rw [← hu71] at hF
  replace f_q19 : u71 q19 = some (.inl (cs 0, 8, .inl (fun _ => 0))) := by rw [hu71]; exact (va_up_ne _ _ (Nat.ne_of_lt l_q19_q66)).trans f_q19
  replace f_q22 : u71 q22 = some (.inr (4, [.int 0, .int 0, .int 0, .int (-1), .int 0, .long 0])) := by rw [hu71]; exact (va_up_ne _ _ (Nat.ne_of_lt l_q22_q66)).trans f_q22
  replace f_h0 : u71 h0 = some (.inr (8, [.ref q1, .ref q4, .ref q7, .ref q10, .ref q13, .ref q16, .ref q19, .ref q22])) := by rw [hu71]; exact (va_up_ne _ _ (Nat.ne_of_lt l_h0_q66)).trans f_h0
  replace f_q28 : u71 q28 = some (.inr (5, [.int 0, .int 0, .null, .null, .int 0, .int 0])) := by rw [hu71]; exact (va_up_ne _ _ (Nat.ne_of_lt l_q28_q66)).trans f_q28
  replace f_q35 : u71 q35 = some (.inl (cs 0, 12, .inl (fun _ => 0))) := by rw [hu71]; exact (va_up_ne _ _ (Nat.ne_of_lt l_q35_q66)).trans f_q35
  replace f_q32 : u71 q32 = some (.inr (0, [.ref q35, .int (-1)])) := by rw [hu71]; exact (va_up_ne _ _ (Nat.ne_of_lt l_q32_q66)).trans f_q32
  replace f_q4 : u71 q4 = some (.inl (cs 3, 4, .inr (.inr (.inr (.inr (va_up (fun _ => none) 0 (some q32))))))) := by rw [hu71]; exact (va_up_ne _ _ (Nat.ne_of_lt l_q4_q66)).trans f_q4
  replace f_q42 : u71 q42 = some (.inl (cs 7, 12, .inr (.inr (.inr (.inr (fun _ => none)))))) := by rw [hu71]; exact (va_up_ne _ _ (Nat.ne_of_lt l_q42_q66)).trans f_q42
  replace f_q39 : u71 q39 = some (.inr (3, [.ref q42, .int (-1), .int 0])) := by rw [hu71]; exact (va_up_ne _ _ (Nat.ne_of_lt l_q39_q66)).trans f_q39
  replace f_q7 : u71 q7 = some (.inl (cs 4, 4, .inr (.inr (.inr (.inr (va_up (fun _ => none) 0 (some q39))))))) := by rw [hu71]; exact (va_up_ne _ _ (Nat.ne_of_lt l_q7_q66)).trans f_q7
  replace f_q49 : u71 q49 = some (.inl (cs 0, 144, .inl (fun _ => 0))) := by rw [hu71]; exact (va_up_ne _ _ (Nat.ne_of_lt l_q49_q66)).trans f_q49
  replace f_q46 : u71 q46 = some (.inr (1, [.ref q49, .int (-1), .int 0])) := by rw [hu71]; exact (va_up_ne _ _ (Nat.ne_of_lt l_q46_q66)).trans f_q46
  replace f_q10 : u71 q10 = some (.inl (cs 5, 4, .inr (.inr (.inr (.inr (va_up (fun _ => none) 0 (some q46))))))) := by rw [hu71]; exact (va_up_ne _ _ (Nat.ne_of_lt l_q10_q66)).trans f_q10
  replace f_q56 : u71 q56 = some (.inl (cs 8, 16, .inr (.inr (.inr (.inr (fun _ => none)))))) := by rw [hu71]; exact (va_up_ne _ _ (Nat.ne_of_lt l_q56_q66)).trans f_q56
  replace f_q53 : u71 q53 = some (.inr (2, [.ref q56, .int 0])) := by rw [hu71]; exact (va_up_ne _ _ (Nat.ne_of_lt l_q53_q66)).trans f_q53
  replace f_q13 : u71 q13 = some (.inl (cs 6, 4, .inr (.inr (.inr (.inr (va_up (fun _ => none) 0 (some q53))))))) := by rw [hu71]; exact (va_up_ne _ _ (Nat.ne_of_lt l_q13_q66)).trans f_q13
  replace f_q16 : u71 q16 = some (.inl (cs 0, 4, .inl (upd (fun _ => 0) 0 1))) := by rw [hu71]; exact (va_up_ne _ _ (Nat.ne_of_lt l_q16_q66)).trans f_q16
  replace f_q62 : u71 q62 = some (.inr (5, [.int 0, .int 0, .null, .null, .int 0, .int 0])) := by rw [hu71]; exact (va_up_ne _ _ (Nat.ne_of_lt l_q62_q66)).trans f_q62
  replace f_q1 : u71 q1 = some (.inl (cs 2, 4, .inr (.inr (.inr (.inr (va_up (va_up (fun _ => none) 0 (some q28)) 1 (some q62))))))) := by rw [hu71]; exact (va_up_ne _ _ (Nat.ne_of_lt l_q1_q66)).trans f_q1
  replace f_q69 : u71 q69 = some (.inl (cs 0, 12, .inl (fun _ => 0))) := by rw [hu71]; exact (va_up_ne _ _ (Nat.ne_of_gt l_q66_q69)).trans f_q69
  replace f_q66 : u71 q66 = some (.inr (0, [.ref q69, .int (-1)])) := by rw [hu71]; exact va_up_self _ _ _
  refine W.eq (g2 := F0 m 102 ls [.ref q66, .int 1, .ref q4]) rfl ?_
  refine fw_astq X hF hS f_q4 3 rfl f_q66 rfl (vp_in_iff.mpr (by decide)) dX8_init_102 (fun H locs hF hS => ?_)
  have hF : fw_P D cls10 A (va_up u71 q4 (some (.inl (cs 3, 4, .inr (.inr (.inr (.inr (va_up (va_up (fun _ => none) 0 (some q32)) 1 (some q66))))))))) H := hF
  obtain ⟨u72, hu72⟩ : ∃ y : fW, y = va_up u71 q4 (some (.inl (cs 3, 4, .inr (.inr (.inr (.inr (va_up (va_up (fun _ => none) 0 (some q32)) 1 (some q66)))))))) := ⟨_, rfl⟩
  rw [← hu72] at hF
  replace f_q19 : u72 q19 = some (.inl (cs 0, 8, .inl (fun _ => 0))) := by rw [hu72]; exact (va_up_ne _ _ (Nat.ne_of_gt l_q4_q19)).trans f_q19
  replace f_q22 : u72 q22 = some (.inr (4, [.int 0, .int 0, .int 0, .int (-1), .int 0, .long 0])) := by rw [hu72]; exact (va_up_ne _ _ (Nat.ne_of_gt l_q4_q22)).trans f_q22
  replace f_h0 : u72 h0 = some (.inr (8, [.ref q1, .ref q4, .ref q7, .ref q10, .ref q13, .ref q16, .ref q19, .ref q22])) := by rw [hu72]; exact (va_up_ne _ _ (Nat.ne_of_lt l_h0_q4)).trans f_h0
  replace f_q28 : u72 q28 = some (.inr (5, [.int 0, .int 0, .null, .null, .int 0, .int 0])) := by rw [hu72]; exact (va_up_ne _ _ (Nat.ne_of_gt l_q4_q28)).trans f_q28
  replace f_q35 : u72 q35 = some (.inl (cs 0, 12, .inl (fun _ => 0))) := by rw [hu72]; exact (va_up_ne _ _ (Nat.ne_of_gt l_q4_q35)).trans f_q35
  replace f_q32 : u72 q32 = some (.inr (0, [.ref q35, .int (-1)])) := by rw [hu72]; exact (va_up_ne _ _ (Nat.ne_of_gt l_q4_q32)).trans f_q32
  replace f_q42 : u72 q42 = some (.inl (cs 7, 12, .inr (.inr (.inr (.inr (fun _ => none)))))) := by rw [hu72]; exact (va_up_ne _ _ (Nat.ne_of_gt l_q4_q42)).trans f_q42
  replace f_q39 : u72 q39 = some (.inr (3, [.ref q42, .int (-1), .int 0])) := by rw [hu72]; exact (va_up_ne _ _ (Nat.ne_of_gt l_q4_q39)).trans f_q39
  replace f_q7 : u72 q7 = some (.inl (cs 4, 4, .inr (.inr (.inr (.inr (va_up (fun _ => none) 0 (some q39))))))) := by rw [hu72]; exact (va_up_ne _ _ (Nat.ne_of_gt l_q4_q7)).trans f_q7
  replace f_q49 : u72 q49 = some (.inl (cs 0, 144, .inl (fun _ => 0))) := by rw [hu72]; exact (va_up_ne _ _ (Nat.ne_of_gt l_q4_q49)).trans f_q49
  replace f_q46 : u72 q46 = some (.inr (1, [.ref q49, .int (-1), .int 0])) := by rw [hu72]; exact (va_up_ne _ _ (Nat.ne_of_gt l_q4_q46)).trans f_q46
  replace f_q10 : u72 q10 = some (.inl (cs 5, 4, .inr (.inr (.inr (.inr (va_up (fun _ => none) 0 (some q46))))))) := by rw [hu72]; exact (va_up_ne _ _ (Nat.ne_of_gt l_q4_q10)).trans f_q10
  replace f_q56 : u72 q56 = some (.inl (cs 8, 16, .inr (.inr (.inr (.inr (fun _ => none)))))) := by rw [hu72]; exact (va_up_ne _ _ (Nat.ne_of_gt l_q4_q56)).trans f_q56
  replace f_q53 : u72 q53 = some (.inr (2, [.ref q56, .int 0])) := by rw [hu72]; exact (va_up_ne _ _ (Nat.ne_of_gt l_q4_q53)).trans f_q53
  replace f_q13 : u72 q13 = some (.inl (cs 6, 4, .inr (.inr (.inr (.inr (va_up (fun _ => none) 0 (some q53))))))) := by rw [hu72]; exact (va_up_ne _ _ (Nat.ne_of_gt l_q4_q13)).trans f_q13
  replace f_q16 : u72 q16 = some (.inl (cs 0, 4, .inl (upd (fun _ => 0) 0 1))) := by rw [hu72]; exact (va_up_ne _ _ (Nat.ne_of_gt l_q4_q16)).trans f_q16
  replace f_q62 : u72 q62 = some (.inr (5, [.int 0, .int 0, .null, .null, .int 0, .int 0])) := by rw [hu72]; exact (va_up_ne _ _ (Nat.ne_of_gt l_q4_q62)).trans f_q62
  replace f_q1 : u72 q1 = some (.inl (cs 2, 4, .inr (.inr (.inr (.inr (va_up (va_up (fun _ => none) 0 (some q28)) 1 (some q62))))))) := by rw [hu72]; exact (va_up_ne _ _ (Nat.ne_of_lt l_q1_q4)).trans f_q1
  replace f_q69 : u72 q69 = some (.inl (cs 0, 12, .inl (fun _ => 0))) := by rw [hu72]; exact (va_up_ne _ _ (Nat.ne_of_gt l_q4_q69)).trans f_q69
  replace f_q66 : u72 q66 = some (.inr (0, [.ref q69, .int (-1)])) := by rw [hu72]; exact (va_up_ne _ _ (Nat.ne_of_gt l_q4_q66)).trans f_q66
  replace f_q4 : u72 q4 = some (.inl (cs 3, 4, .inr (.inr (.inr (.inr (va_up (va_up (fun _ => none) 0 (some q32)) 1 (some q66))))))) := by rw [hu72]; exact va_up_self _ _ _
  refine lv_aload_n hx hb dX8_init_103 rfl (lv_at hl 1 rfl) ?_
  refine fw_get X gC_ok hF f_h0 rfl 2 (by decide) wm_178 rfl dX8_init_104 ?_
  refine lv_iload_n hx hb dX8_init_107 rfl (lv_at hl 0 rfl) ?_
  have m_q19 := hF.lt f_q19
  have m_q22 := hF.lt f_q22
  have m_h0 := hF.lt f_h0
  have m_q28 := hF.lt f_q28
  have m_q35 := hF.lt f_q35
  have m_q32 := hF.lt f_q32
  have m_q42 := hF.lt f_q42
  have m_q39 := hF.lt f_q39
  have m_q7 := hF.lt f_q7
  have m_q49 := hF.lt f_q49
  have m_q46 := hF.lt f_q46
  have m_q10 := hF.lt f_q10
  have m_q56 := hF.lt f_q56
  have m_q53 := hF.lt f_q53
  have m_q13 := hF.lt f_q13
  have m_q16 := hF.lt f_q16
  have m_q62 := hF.lt f_q62
  have m_q1 := hF.lt f_q1
  have m_q69 := hF.lt f_q69
  have m_q66 := hF.lt f_q66
  have m_q4 := hF.lt f_q4
  refine fw_new (ci := 3) (fs := [.null, .int 0, .int 0]) X gC_ok hF hS rfl tyX3 tyX3_ok (by decide +kernel) wm_48 wm_127 wm_29 (Nat.le_of_ble_eq_true rfl) (Nat.le_of_ble_eq_true rfl) dX8_init_108 (fun q73 H nq73 zq73 zzq73 hF hS => ?_)
  have l_q19_q73 : q19 < q73 := Nat.lt_of_lt_of_le m_q19 (Nat.le_of_eq zq73.symm)
  have l_q22_q73 : q22 < q73 := Nat.lt_of_lt_of_le m_q22 (Nat.le_of_eq zq73.symm)
  have l_h0_q73 : h0 < q73 := Nat.lt_of_lt_of_le m_h0 (Nat.le_of_eq zq73.symm)
  have l_q28_q73 : q28 < q73 := Nat.lt_of_lt_of_le m_q28 (Nat.le_of_eq zq73.symm)
  have l_q35_q73 : q35 < q73 := Nat.lt_of_lt_of_le m_q35 (Nat.le_of_eq zq73.symm)
  have l_q32_q73 : q32 < q73 := Nat.lt_of_lt_of_le m_q32 (Nat.le_of_eq zq73.symm)
  have l_q42_q73 : q42 < q73 := Nat.lt_of_lt_of_le m_q42 (Nat.le_of_eq zq73.symm)
  have l_q39_q73 : q39 < q73 := Nat.lt_of_lt_of_le m_q39 (Nat.le_of_eq zq73.symm)
  have l_q7_q73 : q7 < q73 := Nat.lt_of_lt_of_le m_q7 (Nat.le_of_eq zq73.symm)
  have l_q49_q73 : q49 < q73 := Nat.lt_of_lt_of_le m_q49 (Nat.le_of_eq zq73.symm)
  have l_q46_q73 : q46 < q73 := Nat.lt_of_lt_of_le m_q46 (Nat.le_of_eq zq73.symm)
  have l_q10_q73 : q10 < q73 := Nat.lt_of_lt_of_le m_q10 (Nat.le_of_eq zq73.symm)
  have l_q56_q73 : q56 < q73 := Nat.lt_of_lt_of_le m_q56 (Nat.le_of_eq zq73.symm)
  have l_q53_q73 : q53 < q73 := Nat.lt_of_lt_of_le m_q53 (Nat.le_of_eq zq73.symm)
  have l_q13_q73 : q13 < q73 := Nat.lt_of_lt_of_le m_q13 (Nat.le_of_eq zq73.symm)
  have l_q16_q73 : q16 < q73 := Nat.lt_of_lt_of_le m_q16 (Nat.le_of_eq zq73.symm)
  have l_q62_q73 : q62 < q73 := Nat.lt_of_lt_of_le m_q62 (Nat.le_of_eq zq73.symm)
  have l_q1_q73 : q1 < q73 := Nat.lt_of_lt_of_le m_q1 (Nat.le_of_eq zq73.symm)
  have l_q69_q73 : q69 < q73 := Nat.lt_of_lt_of_le m_q69 (Nat.le_of_eq zq73.symm)
  have l_q66_q73 : q66 < q73 := Nat.lt_of_lt_of_le m_q66 (Nat.le_of_eq zq73.symm)
  have l_q4_q73 : q4 < q73 := Nat.lt_of_lt_of_le m_q4 (Nat.le_of_eq zq73.symm)
  clear m_q19 m_q22 m_h0 m_q28 m_q35 m_q32 m_q42 m_q39 m_q7 m_q49 m_q46 m_q10 m_q56 m_q53 m_q13 m_q16 m_q62 m_q1 m_q69 m_q66 m_q4
  have hF : fw_P D cls10 A (va_up u72 q73 (some (.inr (3, [.null, .int 0, .int 0])))) H := hF
  obtain ⟨u74, hu74⟩ : ∃ y : fW, y = va_up u72 q73 (some (.inr (3, [.null, .int 0, .int 0]))) := ⟨_, rfl⟩
  rw [← hu74] at hF
  replace f_q19 : u74 q19 = some (.inl (cs 0, 8, .inl (fun _ => 0))) := by rw [hu74]; exact (va_up_ne _ _ (Nat.ne_of_lt l_q19_q73)).trans f_q19
  replace f_q22 : u74 q22 = some (.inr (4, [.int 0, .int 0, .int 0, .int (-1), .int 0, .long 0])) := by rw [hu74]; exact (va_up_ne _ _ (Nat.ne_of_lt l_q22_q73)).trans f_q22
  replace f_h0 : u74 h0 = some (.inr (8, [.ref q1, .ref q4, .ref q7, .ref q10, .ref q13, .ref q16, .ref q19, .ref q22])) := by rw [hu74]; exact (va_up_ne _ _ (Nat.ne_of_lt l_h0_q73)).trans f_h0
  replace f_q28 : u74 q28 = some (.inr (5, [.int 0, .int 0, .null, .null, .int 0, .int 0])) := by rw [hu74]; exact (va_up_ne _ _ (Nat.ne_of_lt l_q28_q73)).trans f_q28
  replace f_q35 : u74 q35 = some (.inl (cs 0, 12, .inl (fun _ => 0))) := by rw [hu74]; exact (va_up_ne _ _ (Nat.ne_of_lt l_q35_q73)).trans f_q35
  replace f_q32 : u74 q32 = some (.inr (0, [.ref q35, .int (-1)])) := by rw [hu74]; exact (va_up_ne _ _ (Nat.ne_of_lt l_q32_q73)).trans f_q32
  replace f_q42 : u74 q42 = some (.inl (cs 7, 12, .inr (.inr (.inr (.inr (fun _ => none)))))) := by rw [hu74]; exact (va_up_ne _ _ (Nat.ne_of_lt l_q42_q73)).trans f_q42
  replace f_q39 : u74 q39 = some (.inr (3, [.ref q42, .int (-1), .int 0])) := by rw [hu74]; exact (va_up_ne _ _ (Nat.ne_of_lt l_q39_q73)).trans f_q39
  replace f_q7 : u74 q7 = some (.inl (cs 4, 4, .inr (.inr (.inr (.inr (va_up (fun _ => none) 0 (some q39))))))) := by rw [hu74]; exact (va_up_ne _ _ (Nat.ne_of_lt l_q7_q73)).trans f_q7
  replace f_q49 : u74 q49 = some (.inl (cs 0, 144, .inl (fun _ => 0))) := by rw [hu74]; exact (va_up_ne _ _ (Nat.ne_of_lt l_q49_q73)).trans f_q49
  replace f_q46 : u74 q46 = some (.inr (1, [.ref q49, .int (-1), .int 0])) := by rw [hu74]; exact (va_up_ne _ _ (Nat.ne_of_lt l_q46_q73)).trans f_q46
  replace f_q10 : u74 q10 = some (.inl (cs 5, 4, .inr (.inr (.inr (.inr (va_up (fun _ => none) 0 (some q46))))))) := by rw [hu74]; exact (va_up_ne _ _ (Nat.ne_of_lt l_q10_q73)).trans f_q10
  replace f_q56 : u74 q56 = some (.inl (cs 8, 16, .inr (.inr (.inr (.inr (fun _ => none)))))) := by rw [hu74]; exact (va_up_ne _ _ (Nat.ne_of_lt l_q56_q73)).trans f_q56
  replace f_q53 : u74 q53 = some (.inr (2, [.ref q56, .int 0])) := by rw [hu74]; exact (va_up_ne _ _ (Nat.ne_of_lt l_q53_q73)).trans f_q53
  replace f_q13 : u74 q13 = some (.inl (cs 6, 4, .inr (.inr (.inr (.inr (va_up (fun _ => none) 0 (some q53))))))) := by rw [hu74]; exact (va_up_ne _ _ (Nat.ne_of_lt l_q13_q73)).trans f_q13
  replace f_q16 : u74 q16 = some (.inl (cs 0, 4, .inl (upd (fun _ => 0) 0 1))) := by rw [hu74]; exact (va_up_ne _ _ (Nat.ne_of_lt l_q16_q73)).trans f_q16
  replace f_q62 : u74 q62 = some (.inr (5, [.int 0, .int 0, .null, .null, .int 0, .int 0])) := by rw [hu74]; exact (va_up_ne _ _ (Nat.ne_of_lt l_q62_q73)).trans f_q62
  replace f_q1 : u74 q1 = some (.inl (cs 2, 4, .inr (.inr (.inr (.inr (va_up (va_up (fun _ => none) 0 (some q28)) 1 (some q62))))))) := by rw [hu74]; exact (va_up_ne _ _ (Nat.ne_of_lt l_q1_q73)).trans f_q1
  replace f_q69 : u74 q69 = some (.inl (cs 0, 12, .inl (fun _ => 0))) := by rw [hu74]; exact (va_up_ne _ _ (Nat.ne_of_lt l_q69_q73)).trans f_q69
  replace f_q66 : u74 q66 = some (.inr (0, [.ref q69, .int (-1)])) := by rw [hu74]; exact (va_up_ne _ _ (Nat.ne_of_lt l_q66_q73)).trans f_q66
  replace f_q4 : u74 q4 = some (.inl (cs 3, 4, .inr (.inr (.inr (.inr (va_up (va_up (fun _ => none) 0 (some q32)) 1 (some q66))))))) := by rw [hu74]; exact (va_up_ne _ _ (Nat.ne_of_lt l_q4_q73)).trans f_q4
  have f_q73 : u74 q73 = some (.inr (3, [.null, .int 0, .int 0])) := by rw [hu74]; exact va_up_self _ _ _
  refine lv_dup hx hb dX8_init_111 rfl ?_
  have m_q19 := hF.lt f_q19
  have m_q22 := hF.lt f_q22
  have m_h0 := hF.lt f_h0
  have m_q28 := hF.lt f_q28
  have m_q35 := hF.lt f_q35
  have m_q32 := hF.lt f_q32
  have m_q42 := hF.lt f_q42
  have m_q39 := hF.lt f_q39
  have m_q7 := hF.lt f_q7
  have m_q49 := hF.lt f_q49
  have m_q46 := hF.lt f_q46
  have m_q10 := hF.lt f_q10
  have m_q56 := hF.lt f_q56
  have m_q53 := hF.lt f_q53
  have m_q13 := hF.lt f_q13
  have m_q16 := hF.lt f_q16
  have m_q62 := hF.lt f_q62
  have m_q1 := hF.lt f_q1
  have m_q69 := hF.lt f_q69
  have m_q66 := hF.lt f_q66
  have m_q4 := hF.lt f_q4
  have m_q73 := hF.lt f_q73
  refine fw_callIN (As := []) (rest := [.ref q73, .int 1, .ref q7]) X bs_all nw_all mf_X3_init (c_X3_init l D cs _ _ q73 f_q73) nm_128 wm_129 rfl hF hS rfl ((⟨⟨Nat.le_of_ble_eq_true rfl, Nat.le_of_ble_eq_true rfl⟩, Nat.le_of_ble_eq_true rfl, Nat.le_of_ble_eq_true rfl⟩)) rfl hl.1 rfl (Nat.le_of_ble_eq_true rfl) dX8_init_112 (fun v u75 H locs hp hF hS hz1 hk1 hd1 => ?_)
  obtain ⟨hv1, q76, nq76, hw1⟩ := hp
  subst hv1
  have leq76 := (hd1 q76 (by rw [hw1, va_up_ne _ _ (Ne.symm (gx_ne f_q73 nq76)), va_up_self]; exact fun z => by cases z)).resolve_left (fun z => z nq76)
  have l_q19_q76 : q19 < q76 := Nat.lt_of_lt_of_le m_q19 leq76
  have l_q22_q76 : q22 < q76 := Nat.lt_of_lt_of_le m_q22 leq76
  have l_h0_q76 : h0 < q76 := Nat.lt_of_lt_of_le m_h0 leq76
  have l_q28_q76 : q28 < q76 := Nat.lt_of_lt_of_le m_q28 leq76
  have l_q35_q76 : q35 < q76 := Nat.lt_of_lt_of_le m_q35 leq76
  have l_q32_q76 : q32 < q76 := Nat.lt_of_lt_of_le m_q32 leq76
  have l_q42_q76 : q42 < q76 := Nat.lt_of_lt_of_le m_q42 leq76
  have l_q39_q76 : q39 < q76 := Nat.lt_of_lt_of_le m_q39 leq76
  have l_q7_q76 : q7 < q76 := Nat.lt_of_lt_of_le m_q7 leq76
  have l_q49_q76 : q49 < q76 := Nat.lt_of_lt_of_le m_q49 leq76
  have l_q46_q76 : q46 < q76 := Nat.lt_of_lt_of_le m_q46 leq76
  have l_q10_q76 : q10 < q76 := Nat.lt_of_lt_of_le m_q10 leq76
  have l_q56_q76 : q56 < q76 := Nat.lt_of_lt_of_le m_q56 leq76
  have l_q53_q76 : q53 < q76 := Nat.lt_of_lt_of_le m_q53 leq76
  have l_q13_q76 : q13 < q76 := Nat.lt_of_lt_of_le m_q13 leq76
  have l_q16_q76 : q16 < q76 := Nat.lt_of_lt_of_le m_q16 leq76
  have l_q62_q76 : q62 < q76 := Nat.lt_of_lt_of_le m_q62 leq76
  have l_q1_q76 : q1 < q76 := Nat.lt_of_lt_of_le m_q1 leq76
  have l_q69_q76 : q69 < q76 := Nat.lt_of_lt_of_le m_q69 leq76
  have l_q66_q76 : q66 < q76 := Nat.lt_of_lt_of_le m_q66 leq76
  have l_q4_q76 : q4 < q76 := Nat.lt_of_lt_of_le m_q4 leq76
  have l_q73_q76 : q73 < q76 := Nat.lt_of_lt_of_le m_q73 leq76
  clear m_q19 m_q22 m_h0 m_q28 m_q35 m_q32 m_q42 m_q39 m_q7 m_q49 m_q46 m_q10 m_q56 m_q53 m_q13 m_q16 m_q62 m_q1 m_q69 m_q66 m_q4 m_q73
  rw [hw1] at hF
  clear hw1 hd1 hk1
  obtain ⟨u77, hu77⟩ : ∃ y : fW, y = va_up u74 q76 (some (.inl (cs 7, 12, .inr (.inr (.inr (.inr (fun _ => none))))))) := ⟨_, rfl⟩
  rw [← hu77] at hF
  replace f_q19 : u77 q19 = some (.inl (cs 0, 8, .inl (fun _ => 0))) := by rw [hu77]; exact (va_up_ne _ _ (Nat.ne_of_lt l_q19_q76)).trans f_q19
  replace f_q22 : u77 q22 = some (.inr (4, [.int 0, .int 0, .int 0, .int (-1), .int 0, .long 0])) := by rw [hu77]; exact (va_up_ne _ _ (Nat.ne_of_lt l_q22_q76)).trans f_q22
  replace f_h0 : u77 h0 = some (.inr (8, [.ref q1, .ref q4, .ref q7, .ref q10, .ref q13, .ref q16, .ref q19, .ref q22])) := by rw [hu77]; exact (va_up_ne _ _ (Nat.ne_of_lt l_h0_q76)).trans f_h0
  replace f_q28 : u77 q28 = some (.inr (5, [.int 0, .int 0, .null, .null, .int 0, .int 0])) := by rw [hu77]; exact (va_up_ne _ _ (Nat.ne_of_lt l_q28_q76)).trans f_q28
  replace f_q35 : u77 q35 = some (.inl (cs 0, 12, .inl (fun _ => 0))) := by rw [hu77]; exact (va_up_ne _ _ (Nat.ne_of_lt l_q35_q76)).trans f_q35
  replace f_q32 : u77 q32 = some (.inr (0, [.ref q35, .int (-1)])) := by rw [hu77]; exact (va_up_ne _ _ (Nat.ne_of_lt l_q32_q76)).trans f_q32
  replace f_q42 : u77 q42 = some (.inl (cs 7, 12, .inr (.inr (.inr (.inr (fun _ => none)))))) := by rw [hu77]; exact (va_up_ne _ _ (Nat.ne_of_lt l_q42_q76)).trans f_q42
  replace f_q39 : u77 q39 = some (.inr (3, [.ref q42, .int (-1), .int 0])) := by rw [hu77]; exact (va_up_ne _ _ (Nat.ne_of_lt l_q39_q76)).trans f_q39
  replace f_q7 : u77 q7 = some (.inl (cs 4, 4, .inr (.inr (.inr (.inr (va_up (fun _ => none) 0 (some q39))))))) := by rw [hu77]; exact (va_up_ne _ _ (Nat.ne_of_lt l_q7_q76)).trans f_q7
  replace f_q49 : u77 q49 = some (.inl (cs 0, 144, .inl (fun _ => 0))) := by rw [hu77]; exact (va_up_ne _ _ (Nat.ne_of_lt l_q49_q76)).trans f_q49
  replace f_q46 : u77 q46 = some (.inr (1, [.ref q49, .int (-1), .int 0])) := by rw [hu77]; exact (va_up_ne _ _ (Nat.ne_of_lt l_q46_q76)).trans f_q46
  replace f_q10 : u77 q10 = some (.inl (cs 5, 4, .inr (.inr (.inr (.inr (va_up (fun _ => none) 0 (some q46))))))) := by rw [hu77]; exact (va_up_ne _ _ (Nat.ne_of_lt l_q10_q76)).trans f_q10
  replace f_q56 : u77 q56 = some (.inl (cs 8, 16, .inr (.inr (.inr (.inr (fun _ => none)))))) := by rw [hu77]; exact (va_up_ne _ _ (Nat.ne_of_lt l_q56_q76)).trans f_q56
  replace f_q53 : u77 q53 = some (.inr (2, [.ref q56, .int 0])) := by rw [hu77]; exact (va_up_ne _ _ (Nat.ne_of_lt l_q53_q76)).trans f_q53
  replace f_q13 : u77 q13 = some (.inl (cs 6, 4, .inr (.inr (.inr (.inr (va_up (fun _ => none) 0 (some q53))))))) := by rw [hu77]; exact (va_up_ne _ _ (Nat.ne_of_lt l_q13_q76)).trans f_q13
  replace f_q16 : u77 q16 = some (.inl (cs 0, 4, .inl (upd (fun _ => 0) 0 1))) := by rw [hu77]; exact (va_up_ne _ _ (Nat.ne_of_lt l_q16_q76)).trans f_q16
  replace f_q62 : u77 q62 = some (.inr (5, [.int 0, .int 0, .null, .null, .int 0, .int 0])) := by rw [hu77]; exact (va_up_ne _ _ (Nat.ne_of_lt l_q62_q76)).trans f_q62
  replace f_q1 : u77 q1 = some (.inl (cs 2, 4, .inr (.inr (.inr (.inr (va_up (va_up (fun _ => none) 0 (some q28)) 1 (some q62))))))) := by rw [hu77]; exact (va_up_ne _ _ (Nat.ne_of_lt l_q1_q76)).trans f_q1
  replace f_q69 : u77 q69 = some (.inl (cs 0, 12, .inl (fun _ => 0))) := by rw [hu77]; exact (va_up_ne _ _ (Nat.ne_of_lt l_q69_q76)).trans f_q69
  replace f_q66 : u77 q66 = some (.inr (0, [.ref q69, .int (-1)])) := by rw [hu77]; exact (va_up_ne _ _ (Nat.ne_of_lt l_q66_q76)).trans f_q66
  replace f_q4 : u77 q4 = some (.inl (cs 3, 4, .inr (.inr (.inr (.inr (va_up (va_up (fun _ => none) 0 (some q32)) 1 (some q66))))))) := by rw [hu77]; exact (va_up_ne _ _ (Nat.ne_of_lt l_q4_q76)).trans f_q4
  replace f_q73 : u77 q73 = some (.inr (3, [.null, .int 0, .int 0])) := by rw [hu77]; exact (va_up_ne _ _ (Nat.ne_of_lt l_q73_q76)).trans f_q73
  have f_q76 : u77 q76 = some (.inl (cs 7, 12, .inr (.inr (.inr (.inr (fun _ => none)))))) := by rw [hu77]; exact va_up_self _ _ _
  obtain ⟨u78, hu78⟩ : ∃ y : fW, y = va_up u77 q73 (some (.inr (3, [.ref q76, .int (-1), .int 0]))) := ⟨_, rfl⟩
  rw [← hu78] at hF
  replace f_q19 : u78 q19 = some (.inl (cs 0, 8, .inl (fun _ => 0))) := by rw [hu78]; exact (va_up_ne _ _ (Nat.ne_of_lt l_q19_q73)).trans f_q19
  replace f_q22 : u78 q22 = some (.inr (4, [.int 0, .int 0, .int 0, .int (-1), .int 0, .long 0])) := by rw [hu78]; exact (va_up_ne _ _ (Nat.ne_of_lt l_q22_q73)).trans f_q22
  replace f_h0 : u78 h0 = some (.inr (8, [.ref q1, .ref q4, .ref q7, .ref q10, .ref q13, .ref q16, .ref q19, .ref q22])) := by rw [hu78]; exact (va_up_ne _ _ (Nat.ne_of_lt l_h0_q73)).trans f_h0
  replace f_q28 : u78 q28 = some (.inr (5, [.int 0, .int 0, .null, .null, .int 0, .int 0])) := by rw [hu78]; exact (va_up_ne _ _ (Nat.ne_of_lt l_q28_q73)).trans f_q28
  replace f_q35 : u78 q35 = some (.inl (cs 0, 12, .inl (fun _ => 0))) := by rw [hu78]; exact (va_up_ne _ _ (Nat.ne_of_lt l_q35_q73)).trans f_q35
  replace f_q32 : u78 q32 = some (.inr (0, [.ref q35, .int (-1)])) := by rw [hu78]; exact (va_up_ne _ _ (Nat.ne_of_lt l_q32_q73)).trans f_q32
  replace f_q42 : u78 q42 = some (.inl (cs 7, 12, .inr (.inr (.inr (.inr (fun _ => none)))))) := by rw [hu78]; exact (va_up_ne _ _ (Nat.ne_of_lt l_q42_q73)).trans f_q42
  replace f_q39 : u78 q39 = some (.inr (3, [.ref q42, .int (-1), .int 0])) := by rw [hu78]; exact (va_up_ne _ _ (Nat.ne_of_lt l_q39_q73)).trans f_q39
  replace f_q7 : u78 q7 = some (.inl (cs 4, 4, .inr (.inr (.inr (.inr (va_up (fun _ => none) 0 (some q39))))))) := by rw [hu78]; exact (va_up_ne _ _ (Nat.ne_of_lt l_q7_q73)).trans f_q7
  replace f_q49 : u78 q49 = some (.inl (cs 0, 144, .inl (fun _ => 0))) := by rw [hu78]; exact (va_up_ne _ _ (Nat.ne_of_lt l_q49_q73)).trans f_q49
  replace f_q46 : u78 q46 = some (.inr (1, [.ref q49, .int (-1), .int 0])) := by rw [hu78]; exact (va_up_ne _ _ (Nat.ne_of_lt l_q46_q73)).trans f_q46
  replace f_q10 : u78 q10 = some (.inl (cs 5, 4, .inr (.inr (.inr (.inr (va_up (fun _ => none) 0 (some q46))))))) := by rw [hu78]; exact (va_up_ne _ _ (Nat.ne_of_lt l_q10_q73)).trans f_q10
  replace f_q56 : u78 q56 = some (.inl (cs 8, 16, .inr (.inr (.inr (.inr (fun _ => none)))))) := by rw [hu78]; exact (va_up_ne _ _ (Nat.ne_of_lt l_q56_q73)).trans f_q56
  replace f_q53 : u78 q53 = some (.inr (2, [.ref q56, .int 0])) := by rw [hu78]; exact (va_up_ne _ _ (Nat.ne_of_lt l_q53_q73)).trans f_q53
  replace f_q13 : u78 q13 = some (.inl (cs 6, 4, .inr (.inr (.inr (.inr (va_up (fun _ => none) 0 (some q53))))))) := by rw [hu78]; exact (va_up_ne _ _ (Nat.ne_of_lt l_q13_q73)).trans f_q13
  replace f_q16 : u78 q16 = some (.inl (cs 0, 4, .inl (upd (fun _ => 0) 0 1))) := by rw [hu78]; exact (va_up_ne _ _ (Nat.ne_of_lt l_q16_q73)).trans f_q16
  replace f_q62 : u78 q62 = some (.inr (5, [.int 0, .int 0, .null, .null, .int 0, .int 0])) := by rw [hu78]; exact (va_up_ne _ _ (Nat.ne_of_lt l_q62_q73)).trans f_q62
  replace f_q1 : u78 q1 = some (.inl (cs 2, 4, .inr (.inr (.inr (.inr (va_up (va_up (fun _ => none) 0 (some q28)) 1 (some q62))))))) := by rw [hu78]; exact (va_up_ne _ _ (Nat.ne_of_lt l_q1_q73)).trans f_q1
  replace f_q69 : u78 q69 = some (.inl (cs 0, 12, .inl (fun _ => 0))) := by rw [hu78]; exact (va_up_ne _ _ (Nat.ne_of_lt l_q69_q73)).trans f_q69
  replace f_q66 : u78 q66 = some (.inr (0, [.ref q69, .int (-1)])) := by rw [hu78]; exact (va_up_ne _ _ (Nat.ne_of_lt l_q66_q73)).trans f_q66
  replace f_q4 : u78 q4 = some (.inl (cs 3, 4, .inr (.inr (.inr (.inr (va_up (va_up (fun _ => none) 0 (some q32)) 1 (some q66))))))) := by rw [hu78]; exact (va_up_ne _ _ (Nat.ne_of_lt l_q4_q73)).trans f_q4
  replace f_q76 : u78 q76 = some (.inl (cs 7, 12, .inr (.inr (.inr (.inr (fun _ => none)))))) := by rw [hu78]; exact (va_up_ne _ _ (Nat.ne_of_gt l_q73_q76)).trans f_q76
  replace f_q73 : u78 q73 = some (.inr (3, [.ref q76, .int (-1), .int 0])) := by rw [hu78]; exact va_up_self _ _ _
  refine W.eq (g2 := F0 m 115 ls [.ref q73, .int 1, .ref q7]) rfl ?_
  refine fw_astq X hF hS f_q7 4 rfl f_q73 rfl (vp_in_iff.mpr (by decide)) dX8_init_115 (fun H locs hF hS => ?_)
  have hF : fw_P D cls10 A (va_up u78 q7 (some (.inl (cs 4, 4, .inr (.inr (.inr (.inr (va_up (va_up (fun _ => none) 0 (some q39)) 1 (some q73))))))))) H := hF
  obtain ⟨u79, hu79⟩ : ∃ y : fW, y = va_up u78 q7 (some (.inl (cs 4, 4, .inr (.inr (.inr (.inr (va_up (va_up (fun _ => none) 0 (some q39)) 1 (some q73)))))))) := ⟨_, rfl⟩
  rw [← hu79] at hF
  replace f_q19 : u79 q19 = some (.inl (cs 0, 8, .inl (fun _ => 0))) := by rw [hu79]; exact (va_up_ne _ _ (Nat.ne_of_gt l_q7_q19)).trans f_q19
  replace f_q22 : u79 q22 = some (.inr (4, [.int 0, .int 0, .int 0, .int (-1), .int 0, .long 0])) := by rw [hu79]; exact (va_up_ne _ _ (Nat.ne_of_gt l_q7_q22)).trans f_q22
  replace f_h0 : u79 h0 = some (.inr (8, [.ref q1, .ref q4, .ref q7, .ref q10, .ref q13, .ref q16, .ref q19, .ref q22])) := by rw [hu79]; exact (va_up_ne _ _ (Nat.ne_of_lt l_h0_q7)).trans f_h0
  replace f_q28 : u79 q28 = some (.inr (5, [.int 0, .int 0, .null, .null, .int 0, .int 0])) := by rw [hu79]; exact (va_up_ne _ _ (Nat.ne_of_gt l_q7_q28)).trans f_q28
  replace f_q35 : u79 q35 = some (.inl (cs 0, 12, .inl (fun _ => 0))) := by rw [hu79]; exact (va_up_ne _ _ (Nat.ne_of_gt l_q7_q35)).trans f_q35
  replace f_q32 : u79 q32 = some (.inr (0, [.ref q35, .int (-1)])) := by rw [hu79]; exact (va_up_ne _ _ (Nat.ne_of_gt l_q7_q32)).trans f_q32
  replace f_q42 : u79 q42 = some (.inl (cs 7, 12, .inr (.inr (.inr (.inr (fun _ => none)))))) := by rw [hu79]; exact (va_up_ne _ _ (Nat.ne_of_gt l_q7_q42)).trans f_q42
  replace f_q39 : u79 q39 = some (.inr (3, [.ref q42, .int (-1), .int 0])) := by rw [hu79]; exact (va_up_ne _ _ (Nat.ne_of_gt l_q7_q39)).trans f_q39
  replace f_q49 : u79 q49 = some (.inl (cs 0, 144, .inl (fun _ => 0))) := by rw [hu79]; exact (va_up_ne _ _ (Nat.ne_of_gt l_q7_q49)).trans f_q49
  replace f_q46 : u79 q46 = some (.inr (1, [.ref q49, .int (-1), .int 0])) := by rw [hu79]; exact (va_up_ne _ _ (Nat.ne_of_gt l_q7_q46)).trans f_q46
  replace f_q10 : u79 q10 = some (.inl (cs 5, 4, .inr (.inr (.inr (.inr (va_up (fun _ => none) 0 (some q46))))))) := by rw [hu79]; exact (va_up_ne _ _ (Nat.ne_of_gt l_q7_q10)).trans f_q10
  replace f_q56 : u79 q56 = some (.inl (cs 8, 16, .inr (.inr (.inr (.inr (fun _ => none)))))) := by rw [hu79]; exact (va_up_ne _ _ (Nat.ne_of_gt l_q7_q56)).trans f_q56
  replace f_q53 : u79 q53 = some (.inr (2, [.ref q56, .int 0])) := by rw [hu79]; exact (va_up_ne _ _ (Nat.ne_of_gt l_q7_q53)).trans f_q53
  replace f_q13 : u79 q13 = some (.inl (cs 6, 4, .inr (.inr (.inr (.inr (va_up (fun _ => none) 0 (some q53))))))) := by rw [hu79]; exact (va_up_ne _ _ (Nat.ne_of_gt l_q7_q13)).trans f_q13
  replace f_q16 : u79 q16 = some (.inl (cs 0, 4, .inl (upd (fun _ => 0) 0 1))) := by rw [hu79]; exact (va_up_ne _ _ (Nat.ne_of_gt l_q7_q16)).trans f_q16
  replace f_q62 : u79 q62 = some (.inr (5, [.int 0, .int 0, .null, .null, .int 0, .int 0])) := by rw [hu79]; exact (va_up_ne _ _ (Nat.ne_of_gt l_q7_q62)).trans f_q62
  replace f_q1 : u79 q1 = some (.inl (cs 2, 4, .inr (.inr (.inr (.inr (va_up (va_up (fun _ => none) 0 (some q28)) 1 (some q62))))))) := by rw [hu79]; exact (va_up_ne _ _ (Nat.ne_of_lt l_q1_q7)).trans f_q1
  replace f_q69 : u79 q69 = some (.inl (cs 0, 12, .inl (fun _ => 0))) := by rw [hu79]; exact (va_up_ne _ _ (Nat.ne_of_gt l_q7_q69)).trans f_q69
  replace f_q66 : u79 q66 = some (.inr (0, [.ref q69, .int (-1)])) := by rw [hu79]; exact (va_up_ne _ _ (Nat.ne_of_gt l_q7_q66)).trans f_q66
  replace f_q4 : u79 q4 = some (.inl (cs 3, 4, .inr (.inr (.inr (.inr (va_up (va_up (fun _ => none) 0 (some q32)) 1 (some q66))))))) := by rw [hu79]; exact (va_up_ne _ _ (Nat.ne_of_lt l_q4_q7)).trans f_q4
  replace f_q76 : u79 q76 = some (.inl (cs 7, 12, .inr (.inr (.inr (.inr (fun _ => none)))))) := by rw [hu79]; exact (va_up_ne _ _ (Nat.ne_of_gt l_q7_q76)).trans f_q76
  replace f_q73 : u79 q73 = some (.inr (3, [.ref q76, .int (-1), .int 0])) := by rw [hu79]; exact (va_up_ne _ _ (Nat.ne_of_gt l_q7_q73)).trans f_q73
  replace f_q7 : u79 q7 = some (.inl (cs 4, 4, .inr (.inr (.inr (.inr (va_up (va_up (fun _ => none) 0 (some q39)) 1 (some q73))))))) := by rw [hu79]; exact va_up_self _ _ _
  refine lv_aload_n hx hb dX8_init_116 rfl (lv_at hl 1 rfl) ?_
  refine fw_get X gC_ok hF f_h0 rfl 3 (by decide) wm_179 rfl dX8_init_117 ?_
  refine lv_iload_n hx hb dX8_init_120 rfl (lv_at hl 0 rfl) ?_
  have m_q19 := hF.lt f_q19
  have m_q22 := hF.lt f_q22
  have m_h0 := hF.lt f_h0
  have m_q28 := hF.lt f_q28
  have m_q35 := hF.lt f_q35
  have m_q32 := hF.lt f_q32
  have m_q42 := hF.lt f_q42
  have m_q39 := hF.lt f_q39
  have m_q49 := hF.lt f_q49
  have m_q46 := hF.lt f_q46
  have m_q10 := hF.lt f_q10
  have m_q56 := hF.lt f_q56
  have m_q53 := hF.lt f_q53
  have m_q13 := hF.lt f_q13
  have m_q16 := hF.lt f_q16
  have m_q62 := hF.lt f_q62
  have m_q1 := hF.lt f_q1
  have m_q69 := hF.lt f_q69
  have m_q66 := hF.lt f_q66
  have m_q4 := hF.lt f_q4
  have m_q76 := hF.lt f_q76
  have m_q73 := hF.lt f_q73
  have m_q7 := hF.lt f_q7
  refine fw_new (ci := 1) (fs := [.null, .int 0, .int 0]) X gC_ok hF hS rfl tyX1 tyX1_ok (by decide +kernel) wm_50 wm_145 wm_30 (Nat.le_of_ble_eq_true rfl) (Nat.le_of_ble_eq_true rfl) dX8_init_121 (fun q80 H nq80 zq80 zzq80 hF hS => ?_)
  have l_q19_q80 : q19 < q80 := Nat.lt_of_lt_of_le m_q19 (Nat.le_of_eq zq80.symm)
  have l_q22_q80 : q22 < q80 := Nat.lt_of_lt_of_le m_q22 (Nat.le_of_eq zq80.symm)
  have l_h0_q80 : h0 < q80 := Nat.lt_of_lt_of_le m_h0 (Nat.le_of_eq zq80.symm)
  have l_q28_q80 : q28 < q80 := Nat.lt_of_lt_of_le m_q28 (Nat.le_of_eq zq80.symm)
  have l_q35_q80 : q35 < q80 := Nat.lt_of_lt_of_le m_q35 (Nat.le_of_eq zq80.symm)
  have l_q32_q80 : q32 < q80 := Nat.lt_of_lt_of_le m_q32 (Nat.le_of_eq zq80.symm)
  have l_q42_q80 : q42 < q80 := Nat.lt_of_lt_of_le m_q42 (Nat.le_of_eq zq80.symm)
  have l_q39_q80 : q39 < q80 := Nat.lt_of_lt_of_le m_q39 (Nat.le_of_eq zq80.symm)
  have l_q49_q80 : q49 < q80 := Nat.lt_of_lt_of_le m_q49 (Nat.le_of_eq zq80.symm)
  have l_q46_q80 : q46 < q80 := Nat.lt_of_lt_of_le m_q46 (Nat.le_of_eq zq80.symm)
  have l_q10_q80 : q10 < q80 := Nat.lt_of_lt_of_le m_q10 (Nat.le_of_eq zq80.symm)
  have l_q56_q80 : q56 < q80 := Nat.lt_of_lt_of_le m_q56 (Nat.le_of_eq zq80.symm)
  have l_q53_q80 : q53 < q80 := Nat.lt_of_lt_of_le m_q53 (Nat.le_of_eq zq80.symm)
  have l_q13_q80 : q13 < q80 := Nat.lt_of_lt_of_le m_q13 (Nat.le_of_eq zq80.symm)
  have l_q16_q80 : q16 < q80 := Nat.lt_of_lt_of_le m_q16 (Nat.le_of_eq zq80.symm)
  have l_q62_q80 : q62 < q80 := Nat.lt_of_lt_of_le m_q62 (Nat.le_of_eq zq80.symm)
  have l_q1_q80 : q1 < q80 := Nat.lt_of_lt_of_le m_q1 (Nat.le_of_eq zq80.symm)
  have l_q69_q80 : q69 < q80 := Nat.lt_of_lt_of_le m_q69 (Nat.le_of_eq zq80.symm)
  have l_q66_q80 : q66 < q80 := Nat.lt_of_lt_of_le m_q66 (Nat.le_of_eq zq80.symm)
  have l_q4_q80 : q4 < q80 := Nat.lt_of_lt_of_le m_q4 (Nat.le_of_eq zq80.symm)
  have l_q76_q80 : q76 < q80 := Nat.lt_of_lt_of_le m_q76 (Nat.le_of_eq zq80.symm)
  have l_q73_q80 : q73 < q80 := Nat.lt_of_lt_of_le m_q73 (Nat.le_of_eq zq80.symm)
  have l_q7_q80 : q7 < q80 := Nat.lt_of_lt_of_le m_q7 (Nat.le_of_eq zq80.symm)
  clear m_q19 m_q22 m_h0 m_q28 m_q35 m_q32 m_q42 m_q39 m_q49 m_q46 m_q10 m_q56 m_q53 m_q13 m_q16 m_q62 m_q1 m_q69 m_q66 m_q4 m_q76 m_q73 m_q7
  have hF : fw_P D cls10 A (va_up u79 q80 (some (.inr (1, [.null, .int 0, .int 0])))) H := hF
  obtain ⟨u81, hu81⟩ : ∃ y : fW, y = va_up u79 q80 (some (.inr (1, [.null, .int 0, .int 0]))) := ⟨_, rfl⟩
  rw [← hu81] at hF
  replace f_q19 : u81 q19 = some (.inl (cs 0, 8, .inl (fun _ => 0))) := by rw [hu81]; exact (va_up_ne _ _ (Nat.ne_of_lt l_q19_q80)).trans f_q19
  replace f_q22 : u81 q22 = some (.inr (4, [.int 0, .int 0, .int 0, .int (-1), .int 0, .long 0])) := by rw [hu81]; exact (va_up_ne _ _ (Nat.ne_of_lt l_q22_q80)).trans f_q22
  replace f_h0 : u81 h0 = some (.inr (8, [.ref q1, .ref q4, .ref q7, .ref q10, .ref q13, .ref q16, .ref q19, .ref q22])) := by rw [hu81]; exact (va_up_ne _ _ (Nat.ne_of_lt l_h0_q80)).trans f_h0
  replace f_q28 : u81 q28 = some (.inr (5, [.int 0, .int 0, .null, .null, .int 0, .int 0])) := by rw [hu81]; exact (va_up_ne _ _ (Nat.ne_of_lt l_q28_q80)).trans f_q28
  replace f_q35 : u81 q35 = some (.inl (cs 0, 12, .inl (fun _ => 0))) := by rw [hu81]; exact (va_up_ne _ _ (Nat.ne_of_lt l_q35_q80)).trans f_q35
  replace f_q32 : u81 q32 = some (.inr (0, [.ref q35, .int (-1)])) := by rw [hu81]; exact (va_up_ne _ _ (Nat.ne_of_lt l_q32_q80)).trans f_q32
  replace f_q42 : u81 q42 = some (.inl (cs 7, 12, .inr (.inr (.inr (.inr (fun _ => none)))))) := by rw [hu81]; exact (va_up_ne _ _ (Nat.ne_of_lt l_q42_q80)).trans f_q42
  replace f_q39 : u81 q39 = some (.inr (3, [.ref q42, .int (-1), .int 0])) := by rw [hu81]; exact (va_up_ne _ _ (Nat.ne_of_lt l_q39_q80)).trans f_q39
  replace f_q49 : u81 q49 = some (.inl (cs 0, 144, .inl (fun _ => 0))) := by rw [hu81]; exact (va_up_ne _ _ (Nat.ne_of_lt l_q49_q80)).trans f_q49
  replace f_q46 : u81 q46 = some (.inr (1, [.ref q49, .int (-1), .int 0])) := by rw [hu81]; exact (va_up_ne _ _ (Nat.ne_of_lt l_q46_q80)).trans f_q46
  replace f_q10 : u81 q10 = some (.inl (cs 5, 4, .inr (.inr (.inr (.inr (va_up (fun _ => none) 0 (some q46))))))) := by rw [hu81]; exact (va_up_ne _ _ (Nat.ne_of_lt l_q10_q80)).trans f_q10
  replace f_q56 : u81 q56 = some (.inl (cs 8, 16, .inr (.inr (.inr (.inr (fun _ => none)))))) := by rw [hu81]; exact (va_up_ne _ _ (Nat.ne_of_lt l_q56_q80)).trans f_q56
  replace f_q53 : u81 q53 = some (.inr (2, [.ref q56, .int 0])) := by rw [hu81]; exact (va_up_ne _ _ (Nat.ne_of_lt l_q53_q80)).trans f_q53
  replace f_q13 : u81 q13 = some (.inl (cs 6, 4, .inr (.inr (.inr (.inr (va_up (fun _ => none) 0 (some q53))))))) := by rw [hu81]; exact (va_up_ne _ _ (Nat.ne_of_lt l_q13_q80)).trans f_q13
  replace f_q16 : u81 q16 = some (.inl (cs 0, 4, .inl (upd (fun _ => 0) 0 1))) := by rw [hu81]; exact (va_up_ne _ _ (Nat.ne_of_lt l_q16_q80)).trans f_q16
  replace f_q62 : u81 q62 = some (.inr (5, [.int 0, .int 0, .null, .null, .int 0, .int 0])) := by rw [hu81]; exact (va_up_ne _ _ (Nat.ne_of_lt l_q62_q80)).trans f_q62
  replace f_q1 : u81 q1 = some (.inl (cs 2, 4, .inr (.inr (.inr (.inr (va_up (va_up (fun _ => none) 0 (some q28)) 1 (some q62))))))) := by rw [hu81]; exact (va_up_ne _ _ (Nat.ne_of_lt l_q1_q80)).trans f_q1
  replace f_q69 : u81 q69 = some (.inl (cs 0, 12, .inl (fun _ => 0))) := by rw [hu81]; exact (va_up_ne _ _ (Nat.ne_of_lt l_q69_q80)).trans f_q69
  replace f_q66 : u81 q66 = some (.inr (0, [.ref q69, .int (-1)])) := by rw [hu81]; exact (va_up_ne _ _ (Nat.ne_of_lt l_q66_q80)).trans f_q66
  replace f_q4 : u81 q4 = some (.inl (cs 3, 4, .inr (.inr (.inr (.inr (va_up (va_up (fun _ => none) 0 (some q32)) 1 (some q66))))))) := by rw [hu81]; exact (va_up_ne _ _ (Nat.ne_of_lt l_q4_q80)).trans f_q4
  replace f_q76 : u81 q76 = some (.inl (cs 7, 12, .inr (.inr (.inr (.inr (fun _ => none)))))) := by rw [hu81]; exact (va_up_ne _ _ (Nat.ne_of_lt l_q76_q80)).trans f_q76
  replace f_q73 : u81 q73 = some (.inr (3, [.ref q76, .int (-1), .int 0])) := by rw [hu81]; exact (va_up_ne _ _ (Nat.ne_of_lt l_q73_q80)).trans f_q73
  replace f_q7 : u81 q7 = some (.inl (cs 4, 4, .inr (.inr (.inr (.inr (va_up (va_up (fun _ => none) 0 (some q39)) 1 (some q73))))))) := by rw [hu81]; exact (va_up_ne _ _ (Nat.ne_of_lt l_q7_q80)).trans f_q7
  have f_q80 : u81 q80 = some (.inr (1, [.null, .int 0, .int 0])) := by rw [hu81]; exact va_up_self _ _ _
  refine lv_dup hx hb dX8_init_124 rfl ?_
  have m_q19 := hF.lt f_q19
  have m_q22 := hF.lt f_q22
  have m_h0 := hF.lt f_h0
  have m_q28 := hF.lt f_q28
  have m_q35 := hF.lt f_q35
  have m_q32 := hF.lt f_q32
  have m_q42 := hF.lt f_q42
  have m_q39 := hF.lt f_q39
  have m_q49 := hF.lt f_q49
  have m_q46 := hF.lt f_q46
  have m_q10 := hF.lt f_q10
  have m_q56 := hF.lt f_q56
  have m_q53 := hF.lt f_q53
  have m_q13 := hF.lt f_q13
  have m_q16 := hF.lt f_q16
  have m_q62 := hF.lt f_q62
  have m_q1 := hF.lt f_q1
  have m_q69 := hF.lt f_q69
  have m_q66 := hF.lt f_q66
  have m_q4 := hF.lt f_q4
  have m_q76 := hF.lt f_q76
  have m_q73 := hF.lt f_q73
  have m_q7 := hF.lt f_q7
  have m_q80 := hF.lt f_q80
  refine fw_callIN (As := []) (rest := [.ref q80, .int 1, .ref q10]) X bs_all nw_all mf_X1_init (c_X1_init l D cs _ _ q80 f_q80) nm_146 wm_147 rfl hF hS rfl ((⟨⟨Nat.le_of_ble_eq_true rfl, Nat.le_of_ble_eq_true rfl⟩, Nat.le_of_ble_eq_true rfl, Nat.le_of_ble_eq_true rfl⟩)) rfl hl.1 rfl (Nat.le_of_ble_eq_true rfl) dX8_init_125 (fun v u82 H locs hp hF hS hz1 hk1 hd1 => ?_)
  obtain ⟨hv1, q83, nq83, hw1⟩ := hp
  subst hv1
  have leq83 := (hd1 q83 (by rw [hw1, va_up_ne _ _ (Ne.symm (gx_ne f_q80 nq83)), va_up_self]; exact fun z => by cases z)).resolve_left (fun z => z nq83)
  have l_q19_q83 : q19 < q83 := Nat.lt_of_lt_of_le m_q19 leq83
  have l_q22_q83 : q22 < q83 := Nat.lt_of_lt_of_le m_q22 leq83
  have l_h0_q83 : h0 < q83 := Nat.lt_of_lt_of_le m_h0 leq83
  have l_q28_q83 : q28 < q83 := Nat.lt_of_lt_of_le m_q28 leq83
  have l_q35_q83 : q35 < q83 := Nat.lt_of_lt_of_le m_q35 leq83
  have l_q32_q83 : q32 < q83 := Nat.lt_of_lt_of_le m_q32 leq83
  have l_q42_q83 : q42 < q83 := Nat.lt_of_lt_of_le m_q42 leq83
  have l_q39_q83 : q39 < q83 := Nat.lt_of_lt_of_le m_q39 leq83
  have l_q49_q83 : q49 < q83 := Nat.lt_of_lt_of_le m_q49 leq83
  have l_q46_q83 : q46 < q83 := Nat.lt_of_lt_of_le m_q46 leq83
  have l_q10_q83 : q10 < q83 := Nat.lt_of_lt_of_le m_q10 leq83
  have l_q56_q83 : q56 < q83 := Nat.lt_of_lt_of_le m_q56 leq83
  have l_q53_q83 : q53 < q83 := Nat.lt_of_lt_of_le m_q53 leq83
  have l_q13_q83 : q13 < q83 := Nat.lt_of_lt_of_le m_q13 leq83
  have l_q16_q83 : q16 < q83 := Nat.lt_of_lt_of_le m_q16 leq83
  have l_q62_q83 : q62 < q83 := Nat.lt_of_lt_of_le m_q62 leq83
  have l_q1_q83 : q1 < q83 := Nat.lt_of_lt_of_le m_q1 leq83
  have l_q69_q83 : q69 < q83 := Nat.lt_of_lt_of_le m_q69 leq83
  have l_q66_q83 : q66 < q83 := Nat.lt_of_lt_of_le m_q66 leq83
  have l_q4_q83 : q4 < q83 := Nat.lt_of_lt_of_le m_q4 leq83
  have l_q76_q83 : q76 < q83 := Nat.lt_of_lt_of_le m_q76 leq83
  have l_q73_q83 : q73 < q83 := Nat.lt_of_lt_of_le m_q73 leq83
  have l_q7_q83 : q7 < q83 := Nat.lt_of_lt_of_le m_q7 leq83
  have l_q80_q83 : q80 < q83 := Nat.lt_of_lt_of_le m_q80 leq83
  clear m_q19 m_q22 m_h0 m_q28 m_q35 m_q32 m_q42 m_q39 m_q49 m_q46 m_q10 m_q56 m_q53 m_q13 m_q16 m_q62 m_q1 m_q69 m_q66 m_q4 m_q76 m_q73 m_q7 m_q80
  rw [hw1] at hF
  clear hw1 hd1 hk1
  obtain ⟨u84, hu84⟩ : ∃ y : fW, y = va_up u81 q83 (some (.inl (cs 0, 144, .inl (fun _ => 0)))) := ⟨_, rfl⟩
  rw [← hu84] at hF
  replace f_q19 : u84 q19 = some (.inl (cs 0, 8, .inl (fun _ => 0))) := by rw [hu84]; exact (va_up_ne _ _ (Nat.ne_of_lt l_q19_q83)).trans f_q19
  replace f_q22 : u84 q22 = some (.inr (4, [.int 0, .int 0, .int 0, .int (-1), .int 0, .long 0])) := by rw [hu84]; exact (va_up_ne _ _ (Nat.ne_of_lt l_q22_q83)).trans f_q22
  replace f_h0 : u84 h0 = some (.inr (8, [.ref q1, .ref q4, .ref q7, .ref q10, .ref q13, .ref q16, .ref q19, .ref q22])) := by rw [hu84]; exact (va_up_ne _ _ (Nat.ne_of_lt l_h0_q83)).trans f_h0
  replace f_q28 : u84 q28 = some (.inr (5, [.int 0, .int 0, .null, .null, .int 0, .int 0])) := by rw [hu84]; exact (va_up_ne _ _ (Nat.ne_of_lt l_q28_q83)).trans f_q28
  replace f_q35 : u84 q35 = some (.inl (cs 0, 12, .inl (fun _ => 0))) := by rw [hu84]; exact (va_up_ne _ _ (Nat.ne_of_lt l_q35_q83)).trans f_q35
  replace f_q32 : u84 q32 = some (.inr (0, [.ref q35, .int (-1)])) := by rw [hu84]; exact (va_up_ne _ _ (Nat.ne_of_lt l_q32_q83)).trans f_q32
  replace f_q42 : u84 q42 = some (.inl (cs 7, 12, .inr (.inr (.inr (.inr (fun _ => none)))))) := by rw [hu84]; exact (va_up_ne _ _ (Nat.ne_of_lt l_q42_q83)).trans f_q42
  replace f_q39 : u84 q39 = some (.inr (3, [.ref q42, .int (-1), .int 0])) := by rw [hu84]; exact (va_up_ne _ _ (Nat.ne_of_lt l_q39_q83)).trans f_q39
  replace f_q49 : u84 q49 = some (.inl (cs 0, 144, .inl (fun _ => 0))) := by rw [hu84]; exact (va_up_ne _ _ (Nat.ne_of_lt l_q49_q83)).trans f_q49
  replace f_q46 : u84 q46 = some (.inr (1, [.ref q49, .int (-1), .int 0])) := by rw [hu84]; exact (va_up_ne _ _ (Nat.ne_of_lt l_q46_q83)).trans f_q46
  replace f_q10 : u84 q10 = some (.inl (cs 5, 4, .inr (.inr (.inr (.inr (va_up (fun _ => none) 0 (some q46))))))) := by rw [hu84]; exact (va_up_ne _ _ (Nat.ne_of_lt l_q10_q83)).trans f_q10
  replace f_q56 : u84 q56 = some (.inl (cs 8, 16, .inr (.inr (.inr (.inr (fun _ => none)))))) := by rw [hu84]; exact (va_up_ne _ _ (Nat.ne_of_lt l_q56_q83)).trans f_q56
  replace f_q53 : u84 q53 = some (.inr (2, [.ref q56, .int 0])) := by rw [hu84]; exact (va_up_ne _ _ (Nat.ne_of_lt l_q53_q83)).trans f_q53
  replace f_q13 : u84 q13 = some (.inl (cs 6, 4, .inr (.inr (.inr (.inr (va_up (fun _ => none) 0 (some q53))))))) := by rw [hu84]; exact (va_up_ne _ _ (Nat.ne_of_lt l_q13_q83)).trans f_q13
  replace f_q16 : u84 q16 = some (.inl (cs 0, 4, .inl (upd (fun _ => 0) 0 1))) := by rw [hu84]; exact (va_up_ne _ _ (Nat.ne_of_lt l_q16_q83)).trans f_q16
  replace f_q62 : u84 q62 = some (.inr (5, [.int 0, .int 0, .null, .null, .int 0, .int 0])) := by rw [hu84]; exact (va_up_ne _ _ (Nat.ne_of_lt l_q62_q83)).trans f_q62
  replace f_q1 : u84 q1 = some (.inl (cs 2, 4, .inr (.inr (.inr (.inr (va_up (va_up (fun _ => none) 0 (some q28)) 1 (some q62))))))) := by rw [hu84]; exact (va_up_ne _ _ (Nat.ne_of_lt l_q1_q83)).trans f_q1
  replace f_q69 : u84 q69 = some (.inl (cs 0, 12, .inl (fun _ => 0))) := by rw [hu84]; exact (va_up_ne _ _ (Nat.ne_of_lt l_q69_q83)).trans f_q69
  replace f_q66 : u84 q66 = some (.inr (0, [.ref q69, .int (-1)])) := by rw [hu84]; exact (va_up_ne _ _ (Nat.ne_of_lt l_q66_q83)).trans f_q66
  replace f_q4 : u84 q4 = some (.inl (cs 3, 4, .inr (.inr (.inr (.inr (va_up (va_up (fun _ => none) 0 (some q32)) 1 (some q66))))))) := by rw [hu84]; exact (va_up_ne _ _ (Nat.ne_of_lt l_q4_q83)).trans f_q4
  replace f_q76 : u84 q76 = some (.inl (cs 7, 12, .inr (.inr (.inr (.inr (fun _ => none)))))) := by rw [hu84]; exact (va_up_ne _ _ (Nat.ne_of_lt l_q76_q83)).trans f_q76
  replace f_q73 : u84 q73 = some (.inr (3, [.ref q76, .int (-1), .int 0])) := by rw [hu84]; exact (va_up_ne _ _ (Nat.ne_of_lt l_q73_q83)).trans f_q73
  replace f_q7 : u84 q7 = some (.inl (cs 4, 4, .inr (.inr (.inr (.inr (va_up (va_up (fun _ => none) 0 (some q39)) 1 (some q73))))))) := by rw [hu84]; exact (va_up_ne _ _ (Nat.ne_of_lt l_q7_q83)).trans f_q7
  replace f_q80 : u84 q80 = some (.inr (1, [.null, .int 0, .int 0])) := by rw [hu84]; exact (va_up_ne _ _ (Nat.ne_of_lt l_q80_q83)).trans f_q80
  have f_q83 : u84 q83 = some (.inl (cs 0, 144, .inl (fun _ => 0))) := by rw [hu84]; exact va_up_self _ _ _
  obtain ⟨u85, hu85⟩ : ∃ y : fW, y = va_up u84 q80 (some (.inr (1, [.ref q83, .int (-1), .int 0]))) := ⟨_, rfl⟩
  rw [← hu85] at hF
  replace f_q19 : u85 q19 = some (.inl (cs 0, 8, .inl (fun _ => 0))) := by rw [hu85]; exact (va_up_ne _ _ (Nat.ne_of_lt l_q19_q80)).trans f_q19
  replace f_q22 : u85 q22 = some (.inr (4, [.int 0, .int 0, .int 0, .int (-1), .int 0, .long 0])) := by rw [hu85]; exact (va_up_ne _ _ (Nat.ne_of_lt l_q22_q80)).trans f_q22
  replace f_h0 : u85 h0 = some (.inr (8, [.ref q1, .ref q4, .ref q7, .ref q10, .ref q13, .ref q16, .ref q19, .ref q22])) := by rw [hu85]; exact (va_up_ne _ _ (Nat.ne_of_lt l_h0_q80)).trans f_h0
  replace f_q28 : u85 q28 = some (.inr (5, [.int 0, .int 0, .null, .null, .int 0, .int 0])) := by rw [hu85]; exact (va_up_ne _ _ (Nat.ne_of_lt l_q28_q80)).trans f_q28
  replace f_q35 : u85 q35 = some (.inl (cs 0, 12, .inl (fun _ => 0))) := by rw [hu85]; exact (va_up_ne _ _ (Nat.ne_of_lt l_q35_q80)).trans f_q35
  replace f_q32 : u85 q32 = some (.inr (0, [.ref q35, .int (-1)])) := by rw [hu85]; exact (va_up_ne _ _ (Nat.ne_of_lt l_q32_q80)).trans f_q32
  replace f_q42 : u85 q42 = some (.inl (cs 7, 12, .inr (.inr (.inr (.inr (fun _ => none)))))) := by rw [hu85]; exact (va_up_ne _ _ (Nat.ne_of_lt l_q42_q80)).trans f_q42
  replace f_q39 : u85 q39 = some (.inr (3, [.ref q42, .int (-1), .int 0])) := by rw [hu85]; exact (va_up_ne _ _ (Nat.ne_of_lt l_q39_q80)).trans f_q39
  replace f_q49 : u85 q49 = some (.inl (cs 0, 144, .inl (fun _ => 0))) := by rw [hu85]; exact (va_up_ne _ _ (Nat.ne_of_lt l_q49_q80)).trans f_q49
  replace f_q46 : u85 q46 = some (.inr (1, [.ref q49, .int (-1), .int 0])) := by rw [hu85]; exact (va_up_ne _ _ (Nat.ne_of_lt l_q46_q80)).trans f_q46
  replace f_q10 : u85 q10 = some (.inl (cs 5, 4, .inr (.inr (.inr (.inr (va_up (fun _ => none) 0 (some q46))))))) := by rw [hu85]; exact (va_up_ne _ _ (Nat.ne_of_lt l_q10_q80)).trans f_q10
  replace f_q56 : u85 q56 = some (.inl (cs 8, 16, .inr (.inr (.inr (.inr (fun _ => none)))))) := by rw [hu85]; exact (va_up_ne _ _ (Nat.ne_of_lt l_q56_q80)).trans f_q56
  replace f_q53 : u85 q53 = some (.inr (2, [.ref q56, .int 0])) := by rw [hu85]; exact (va_up_ne _ _ (Nat.ne_of_lt l_q53_q80)).trans f_q53
  replace f_q13 : u85 q13 = some (.inl (cs 6, 4, .inr (.inr (.inr (.inr (va_up (fun _ => none) 0 (some q53))))))) := by rw [hu85]; exact (va_up_ne _ _ (Nat.ne_of_lt l_q13_q80)).trans f_q13
  replace f_q16 : u85 q16 = some (.inl (cs 0, 4, .inl (upd (fun _ => 0) 0 1))) := by rw [hu85]; exact (va_up_ne _ _ (Nat.ne_of_lt l_q16_q80)).trans f_q16
  replace f_q62 : u85 q62 = some (.inr (5, [.int 0, .int 0, .null, .null, .int 0, .int 0])) := by rw [hu85]; exact (va_up_ne _ _ (Nat.ne_of_lt l_q62_q80)).trans f_q62
  replace f_q1 : u85 q1 = some (.inl (cs 2, 4, .inr (.inr (.inr (.inr (va_up (va_up (fun _ => none) 0 (some q28)) 1 (some q62))))))) := by rw [hu85]; exact (va_up_ne _ _ (Nat.ne_of_lt l_q1_q80)).trans f_q1
  replace f_q69 : u85 q69 = some (.inl (cs 0, 12, .inl (fun _ => 0))) := by rw [hu85]; exact (va_up_ne _ _ (Nat.ne_of_lt l_q69_q80)).trans f_q69
  replace f_q66 : u85 q66 = some (.inr (0, [.ref q69, .int (-1)])) := by rw [hu85]; exact (va_up_ne _ _ (Nat.ne_of_lt l_q66_q80)).trans f_q66
  replace f_q4 : u85 q4 = some (.inl (cs 3, 4, .inr (.inr (.inr (.inr (va_up (va_up (fun _ => none) 0 (some q32)) 1 (some q66))))))) := by rw [hu85]; exact (va_up_ne _ _ (Nat.ne_of_lt l_q4_q80)).trans f_q4
  replace f_q76 : u85 q76 = some (.inl (cs 7, 12, .inr (.inr (.inr (.inr (fun _ => none)))))) := by rw [hu85]; exact (va_up_ne _ _ (Nat.ne_of_lt l_q76_q80)).trans f_q76
  replace f_q73 : u85 q73 = some (.inr (3, [.ref q76, .int (-1), .int 0])) := by rw [hu85]; exact (va_up_ne _ _ (Nat.ne_of_lt l_q73_q80)).trans f_q73
  replace f_q7 : u85 q7 = some (.inl (cs 4, 4, .inr (.inr (.inr (.inr (va_up (va_up (fun _ => none) 0 (some q39)) 1 (some q73))))))) := by rw [hu85]; exact (va_up_ne _ _ (Nat.ne_of_lt l_q7_q80)).trans f_q7
  replace f_q83 : u85 q83 = some (.inl (cs 0, 144, .inl (fun _ => 0))) := by rw [hu85]; exact (va_up_ne _ _ (Nat.ne_of_gt l_q80_q83)).trans f_q83
  replace f_q80 : u85 q80 = some (.inr (1, [.ref q83, .int (-1), .int 0])) := by rw [hu85]; exact va_up_self _ _ _
  refine W.eq (g2 := F0 m 128 ls [.ref q80, .int 1, .ref q10]) rfl ?_
  refine fw_astq X hF hS f_q10 5 rfl f_q80 rfl (vp_in_iff.mpr (by decide)) dX8_init_128 (fun H locs hF hS => ?_)
  have hF : fw_P D cls10 A (va_up u85 q10 (some (.inl (cs 5, 4, .inr (.inr (.inr (.inr (va_up (va_up (fun _ => none) 0 (some q46)) 1 (some q80))))))))) H := hF
  obtain ⟨u86, hu86⟩ : ∃ y : fW, y = va_up u85 q10 (some (.inl (cs 5, 4, .inr (.inr (.inr (.inr (va_up (va_up (fun _ => none) 0 (some q46)) 1 (some q80)))))))) := ⟨_, rfl⟩
  rw [← hu86] at hF
  replace f_q19 : u86 q19 = some (.inl (cs 0, 8, .inl (fun _ => 0))) := by rw [hu86]; exact (va_up_ne _ _ (Nat.ne_of_gt l_q10_q19)).trans f_q19
  replace f_q22 : u86 q22 = some (.inr (4, [.int 0, .int 0, .int 0, .int (-1), .int 0, .long 0])) := by rw [hu86]; exact (va_up_ne _ _ (Nat.ne_of_gt l_q10_q22)).trans f_q22
  replace f_h0 : u86 h0 = some (.inr (8, [.ref q1, .ref q4, .ref q7, .ref q10, .ref q13, .ref q16, .ref q19, .ref q22])) := by rw [hu86]; exact (va_up_ne _ _ (Nat.ne_of_lt l_h0_q10)).trans f_h0
  replace f_q28 : u86 q28 = some (.inr (5, [.int 0, .int 0, .null, .null, .int 0, .int 0])) := by rw [hu86]; exact (va_up_ne _ _ (Nat.ne_of_gt l_q10_q28)).trans f_q28
  replace f_q35 : u86 q35 = some (.inl (cs 0, 12, .inl (fun _ => 0))) := by rw [hu86]; exact (va_up_ne _ _ (Nat.ne_of_gt l_q10_q35)).trans f_q35
  replace f_q32 : u86 q32 = some (.inr (0, [.ref q35, .int (-1)])) := by rw [hu86]; exact (va_up_ne _ _ (Nat.ne_of_gt l_q10_q32)).trans f_q32
  replace f_q42 : u86 q42 = some (.inl (cs 7, 12, .inr (.inr (.inr (.inr (fun _ => none)))))) := by rw [hu86]; exact (va_up_ne _ _ (Nat.ne_of_gt l_q10_q42)).trans f_q42
  replace f_q39 : u86 q39 = some (.inr (3, [.ref q42, .int (-1), .int 0])) := by rw [hu86]; exact (va_up_ne _ _ (Nat.ne_of_gt l_q10_q39)).trans f_q39
  replace f_q49 : u86 q49 = some (.inl (cs 0, 144, .inl (fun _ => 0))) := by rw [hu86]; exact (va_up_ne _ _ (Nat.ne_of_gt l_q10_q49)).trans f_q49
  replace f_q46 : u86 q46 = some (.inr (1, [.ref q49, .int (-1), .int 0])) := by rw [hu86]; exact (va_up_ne _ _ (Nat.ne_of_gt l_q10_q46)).trans f_q46
  replace f_q56 : u86 q56 = some (.inl (cs 8, 16, .inr (.inr (.inr (.inr (fun _ => none)))))) := by rw [hu86]; exact (va_up_ne _ _ (Nat.ne_of_gt l_q10_q56)).trans f_q56
  replace f_q53 : u86 q53 = some (.inr (2, [.ref q56, .int 0])) := by rw [hu86]; exact (va_up_ne _ _ (Nat.ne_of_gt l_q10_q53)).trans f_q53
  replace f_q13 : u86 q13 = some (.inl (cs 6, 4, .inr (.inr (.inr (.inr (va_up (fun _ => none) 0 (some q53))))))) := by rw [hu86]; exact (va_up_ne _ _ (Nat.ne_of_gt l_q10_q13)).trans f_q13
  replace f_q16 : u86 q16 = some (.inl (cs 0, 4, .inl (upd (fun _ => 0) 0 1))) := by rw [hu86]; exact (va_up_ne _ _ (Nat.ne_of_gt l_q10_q16)).trans f_q16
  replace f_q62 : u86 q62 = some (.inr (5, [.int 0, .int 0, .null, .null, .int 0, .int 0])) := by rw [hu86]; exact (va_up_ne _ _ (Nat.ne_of_gt l_q10_q62)).trans f_q62
  replace f_q1 : u86 q1 = some (.inl (cs 2, 4, .inr (.inr (.inr (.inr (va_up (va_up (fun _ => none) 0 (some q28)) 1 (some q62))))))) := by rw [hu86]; exact (va_up_ne _ _ (Nat.ne_of_lt l_q1_q10)).trans f_q1
  replace f_q69 : u86 q69 = some (.inl (cs 0, 12, .inl (fun _ => 0))) := by rw [hu86]; exact (va_up_ne _ _ (Nat.ne_of_gt l_q10_q69)).trans f_q69
  replace f_q66 : u86 q66 = some (.inr (0, [.ref q69, .int (-1)])) := by rw [hu86]; exact (va_up_ne _ _ (Nat.ne_of_gt l_q10_q66)).trans f_q66
  replace f_q4 : u86 q4 = some (.inl (cs 3, 4, .inr (.inr (.inr (.inr (va_up (va_up (fun _ => none) 0 (some q32)) 1 (some q66))))))) := by rw [hu86]; exact (va_up_ne _ _ (Nat.ne_of_lt l_q4_q10)).trans f_q4
  replace f_q76 : u86 q76 = some (.inl (cs 7, 12, .inr (.inr (.inr (.inr (fun _ => none)))))) := by rw [hu86]; exact (va_up_ne _ _ (Nat.ne_of_gt l_q10_q76)).trans f_q76
  replace f_q73 : u86 q73 = some (.inr (3, [.ref q76, .int (-1), .int 0])) := by rw [hu86]; exact (va_up_ne _ _ (Nat.ne_of_gt l_q10_q73)).trans f_q73
  replace f_q7 : u86 q7 = some (.inl (cs 4, 4, .inr (.inr (.inr (.inr (va_up (va_up (fun _ => none) 0 (some q39)) 1 (some q73))))))) := by rw [hu86]; exact (va_up_ne _ _ (Nat.ne_of_lt l_q7_q10)).trans f_q7
  replace f_q83 : u86 q83 = some (.inl (cs 0, 144, .inl (fun _ => 0))) := by rw [hu86]; exact (va_up_ne _ _ (Nat.ne_of_gt l_q10_q83)).trans f_q83
  replace f_q80 : u86 q80 = some (.inr (1, [.ref q83, .int (-1), .int 0])) := by rw [hu86]; exact (va_up_ne _ _ (Nat.ne_of_gt l_q10_q80)).trans f_q80
  replace f_q10 : u86 q10 = some (.inl (cs 5, 4, .inr (.inr (.inr (.inr (va_up (va_up (fun _ => none) 0 (some q46)) 1 (some q80))))))) := by rw [hu86]; exact va_up_self _ _ _
  refine lv_aload_n hx hb dX8_init_129 rfl (lv_at hl 1 rfl) ?_
  refine fw_get X gC_ok hF f_h0 rfl 4 (by decide) wm_180 rfl dX8_init_130 ?_
  refine lv_iload_n hx hb dX8_init_133 rfl (lv_at hl 0 rfl) ?_
  have m_q19 := hF.lt f_q19
  have m_q22 := hF.lt f_q22
  have m_h0 := hF.lt f_h0
  have m_q28 := hF.lt f_q28
  have m_q35 := hF.lt f_q35
  have m_q32 := hF.lt f_q32
  have m_q42 := hF.lt f_q42
  have m_q39 := hF.lt f_q39
  have m_q49 := hF.lt f_q49
  have m_q46 := hF.lt f_q46
  have m_q56 := hF.lt f_q56
  have m_q53 := hF.lt f_q53
  have m_q13 := hF.lt f_q13
  have m_q16 := hF.lt f_q16
  have m_q62 := hF.lt f_q62
  have m_q1 := hF.lt f_q1
  have m_q69 := hF.lt f_q69
  have m_q66 := hF.lt f_q66
  have m_q4 := hF.lt f_q4
  have m_q76 := hF.lt f_q76
  have m_q73 := hF.lt f_q73
  have m_q7 := hF.lt f_q7
  have m_q83 := hF.lt f_q83
  have m_q80 := hF.lt f_q80
  have m_q10 := hF.lt f_q10
  refine fw_new (ci := 2) (fs := [.null, .int 0]) X gC_ok hF hS rfl tyX2 tyX2_ok (by decide +kernel) wm_52 wm_161 wm_31 (Nat.le_of_ble_eq_true rfl) (Nat.le_of_ble_eq_true rfl) dX8_init_134 (fun q87 H nq87 zq87 zzq87 hF hS => ?_)
  have l_q19_q87 : q19 < q87 := Nat.lt_of_lt_of_le m_q19 (Nat.le_of_eq zq87.symm)
  have l_q22_q87 : q22 < q87 := Nat.lt_of_lt_of_le m_q22 (Nat.le_of_eq zq87.symm)
  have l_h0_q87 : h0 < q87 := Nat.lt_of_lt_of_le m_h0 (Nat.le_of_eq zq87.symm)
  have l_q28_q87 : q28 < q87 := Nat.lt_of_lt_of_le m_q28 (Nat.le_of_eq zq87.symm)
  have l_q35_q87 : q35 < q87 := Nat.lt_of_lt_of_le m_q35 (Nat.le_of_eq zq87.symm)
  have l_q32_q87 : q32 < q87 := Nat.lt_of_lt_of_le m_q32 (Nat.le_of_eq zq87.symm)
  have l_q42_q87 : q42 < q87 := Nat.lt_of_lt_of_le m_q42 (Nat.le_of_eq zq87.symm)
  have l_q39_q87 : q39 < q87 := Nat.lt_of_lt_of_le m_q39 (Nat.le_of_eq zq87.symm)
  have l_q49_q87 : q49 < q87 := Nat.lt_of_lt_of_le m_q49 (Nat.le_of_eq zq87.symm)
  have l_q46_q87 : q46 < q87 := Nat.lt_of_lt_of_le m_q46 (Nat.le_of_eq zq87.symm)
  have l_q56_q87 : q56 < q87 := Nat.lt_of_lt_of_le m_q56 (Nat.le_of_eq zq87.symm)
  have l_q53_q87 : q53 < q87 := Nat.lt_of_lt_of_le m_q53 (Nat.le_of_eq zq87.symm)
  have l_q13_q87 : q13 < q87 := Nat.lt_of_lt_of_le m_q13 (Nat.le_of_eq zq87.symm)
  have l_q16_q87 : q16 < q87 := Nat.lt_of_lt_of_le m_q16 (Nat.le_of_eq zq87.symm)
  have l_q62_q87 : q62 < q87 := Nat.lt_of_lt_of_le m_q62 (Nat.le_of_eq zq87.symm)
  have l_q1_q87 : q1 < q87 := Nat.lt_of_lt_of_le m_q1 (Nat.le_of_eq zq87.symm)
  have l_q69_q87 : q69 < q87 := Nat.lt_of_lt_of_le m_q69 (Nat.le_of_eq zq87.symm)
  have l_q66_q87 : q66 < q87 := Nat.lt_of_lt_of_le m_q66 (Nat.le_of_eq zq87.symm)
  have l_q4_q87 : q4 < q87 := Nat.lt_of_lt_of_le m_q4 (Nat.le_of_eq zq87.symm)
  have l_q76_q87 : q76 < q87 := Nat.lt_of_lt_of_le m_q76 (Nat.le_of_eq zq87.symm)
  have l_q73_q87 : q73 < q87 := Nat.lt_of_lt_of_le m_q73 (Nat.le_of_eq zq87.symm)
  have l_q7_q87 : q7 < q87 := Nat.lt_of_lt_of_le m_q7 (Nat.le_of_eq zq87.symm)
  have l_q83_q87 : q83 < q87 := Nat.lt_of_lt_of_le m_q83 (Nat.le_of_eq zq87.symm)
  have l_q80_q87 : q80 < q87 := Nat.lt_of_lt_of_le m_q80 (Nat.le_of_eq zq87.symm)
  have l_q10_q87 : q10 < q87 := Nat.lt_of_lt_of_le m_q10 (Nat.le_of_eq zq87.symm)
  clear m_q19 m_q22 m_h0 m_q28 m_q35 m_q32 m_q42 m_q39 m_q49 m_q46 m_q56 m_q53 m_q13 m_q16 m_q62 m_q1 m_q69 m_q66 m_q4 m_q76 m_q73 m_q7 m_q83 m_q80 m_q10
  have hF : fw_P D cls10 A (va_up u86 q87 (some (.inr (2, [.null, .int 0])))) H := hF
  obtain ⟨u88, hu88⟩ : ∃ y : fW, y = va_up u86 q87 (some (.inr (2, [.null, .int 0]))) := ⟨_, rfl⟩
  rw [← hu88] at hF
  replace f_q19 : u88 q19 = some (.inl (cs 0, 8, .inl (fun _ => 0))) := by rw [hu88]; exact (va_up_ne _ _ (Nat.ne_of_lt l_q19_q87)).trans f_q19
  replace f_q22 : u88 q22 = some (.inr (4, [.int 0, .int 0, .int 0, .int (-1), .int 0, .long 0])) := by rw [hu88]; exact (va_up_ne _ _ (Nat.ne_of_lt l_q22_q87)).trans f_q22
  replace f_h0 : u88 h0 = some (.inr (8, [.ref q1, .ref q4, .ref q7, .ref q10, .ref q13, .ref q16, .ref q19, .ref q22])) := by rw [hu88]; exact (va_up_ne _ _ (Nat.ne_of_lt l_h0_q87)).trans f_h0
  replace f_q28 : u88 q28 = some (.inr (5, [.int 0, .int 0, .null, .null, .int 0, .int 0])) := by rw [hu88]; exact (va_up_ne _ _ (Nat.ne_of_lt l_q28_q87)).trans f_q28
  replace f_q35 : u88 q35 = some (.inl (cs 0, 12, .inl (fun _ => 0))) := by rw [hu88]; exact (va_up_ne _ _ (Nat.ne_of_lt l_q35_q87)).trans f_q35
  replace f_q32 : u88 q32 = some (.inr (0, [.ref q35, .int (-1)])) := by rw [hu88]; exact (va_up_ne _ _ (Nat.ne_of_lt l_q32_q87)).trans f_q32
  replace f_q42 : u88 q42 = some (.inl (cs 7, 12, .inr (.inr (.inr (.inr (fun _ => none)))))) := by rw [hu88]; exact (va_up_ne _ _ (Nat.ne_of_lt l_q42_q87)).trans f_q42
  replace f_q39 : u88 q39 = some (.inr (3, [.ref q42, .int (-1), .int 0])) := by rw [hu88]; exact (va_up_ne _ _ (Nat.ne_of_lt l_q39_q87)).trans f_q39
  replace f_q49 : u88 q49 = some (.inl (cs 0, 144, .inl (fun _ => 0))) := by rw [hu88]; exact (va_up_ne _ _ (Nat.ne_of_lt l_q49_q87)).trans f_q49
  replace f_q46 : u88 q46 = some (.inr (1, [.ref q49, .int (-1), .int 0])) := by rw [hu88]; exact (va_up_ne _ _ (Nat.ne_of_lt l_q46_q87)).trans f_q46
  replace f_q56 : u88 q56 = some (.inl (cs 8, 16, .inr (.inr (.inr (.inr (fun _ => none)))))) := by rw [hu88]; exact (va_up_ne _ _ (Nat.ne_of_lt l_q56_q87)).trans f_q56
  replace f_q53 : u88 q53 = some (.inr (2, [.ref q56, .int 0])) := by rw [hu88]; exact (va_up_ne _ _ (Nat.ne_of_lt l_q53_q87)).trans f_q53
  replace f_q13 : u88 q13 = some (.inl (cs 6, 4, .inr (.inr (.inr (.inr (va_up (fun _ => none) 0 (some q53))))))) := by rw [hu88]; exact (va_up_ne _ _ (Nat.ne_of_lt l_q13_q87)).trans f_q13
  replace f_q16 : u88 q16 = some (.inl (cs 0, 4, .inl (upd (fun _ => 0) 0 1))) := by rw [hu88]; exact (va_up_ne _ _ (Nat.ne_of_lt l_q16_q87)).trans f_q16
  replace f_q62 : u88 q62 = some (.inr (5, [.int 0, .int 0, .null, .null, .int 0, .int 0])) := by rw [hu88]; exact (va_up_ne _ _ (Nat.ne_of_lt l_q62_q87)).trans f_q62
  replace f_q1 : u88 q1 = some (.inl (cs 2, 4, .inr (.inr (.inr (.inr (va_up (va_up (fun _ => none) 0 (some q28)) 1 (some q62))))))) := by rw [hu88]; exact (va_up_ne _ _ (Nat.ne_of_lt l_q1_q87)).trans f_q1
  replace f_q69 : u88 q69 = some (.inl (cs 0, 12, .inl (fun _ => 0))) := by rw [hu88]; exact (va_up_ne _ _ (Nat.ne_of_lt l_q69_q87)).trans f_q69
  replace f_q66 : u88 q66 = some (.inr (0, [.ref q69, .int (-1)])) := by rw [hu88]; exact (va_up_ne _ _ (Nat.ne_of_lt l_q66_q87)).trans f_q66
  replace f_q4 : u88 q4 = some (.inl (cs 3, 4, .inr (.inr (.inr (.inr (va_up (va_up (fun _ => none) 0 (some q32)) 1 (some q66))))))) := by rw [hu88]; exact (va_up_ne _ _ (Nat.ne_of_lt l_q4_q87)).trans f_q4
  replace f_q76 : u88 q76 = some (.inl (cs 7, 12, .inr (.inr (.inr (.inr (fun _ => none)))))) := by rw [hu88]; exact (va_up_ne _ _ (Nat.ne_of_lt l_q76_q87)).trans f_q76
  replace f_q73 : u88 q73 = some (.inr (3, [.ref q76, .int (-1), .int 0])) := by rw [hu88]; exact (va_up_ne _ _ (Nat.ne_of_lt l_q73_q87)).trans f_q73
  replace f_q7 : u88 q7 = some (.inl (cs 4, 4, .inr (.inr (.inr (.inr (va_up (va_up (fun _ => none) 0 (some q39)) 1 (some q73))))))) := by rw [hu88]; exact (va_up_ne _ _ (Nat.ne_of_lt l_q7_q87)).trans f_q7
  replace f_q83 : u88 q83 = some (.inl (cs 0, 144, .inl (fun _ => 0))) := by rw [hu88]; exact (va_up_ne _ _ (Nat.ne_of_lt l_q83_q87)).trans f_q83
  replace f_q80 : u88 q80 = some (.inr (1, [.ref q83, .int (-1), .int 0])) := by rw [hu88]; exact (va_up_ne _ _ (Nat.ne_of_lt l_q80_q87)).trans f_q80
  replace f_q10 : u88 q10 = some (.inl (cs 5, 4, .inr (.inr (.inr (.inr (va_up (va_up (fun _ => none) 0 (some q46)) 1 (some q80))))))) := by rw [hu88]; exact (va_up_ne _ _ (Nat.ne_of_lt l_q10_q87)).trans f_q10
  have f_q87 : u88 q87 = some (.inr (2, [.null, .int 0])) := by rw [hu88]; exact va_up_self _ _ _
  refine lv_dup hx hb dX8_init_137 rfl ?_
  have m_q19 := hF.lt f_q19
  have m_q22 := hF.lt f_q22
  have m_h0 := hF.lt f_h0
  have m_q28 := hF.lt f_q28
  have m_q35 := hF.lt f_q35
  have m_q32 := hF.lt f_q32
  have m_q42 := hF.lt f_q42
  have m_q39 := hF.lt f_q39
  have m_q49 := hF.lt f_q49
  have m_q46 := hF.lt f_q46
  have m_q56 := hF.lt f_q56
  have m_q53 := hF.lt f_q53
  have m_q13 := hF.lt f_q13
  have m_q16 := hF.lt f_q16
  have m_q62 := hF.lt f_q62
  have m_q1 := hF.lt f_q1
  have m_q69 := hF.lt f_q69
  have m_q66 := hF.lt f_q66
  have m_q4 := hF.lt f_q4
  have m_q76 := hF.lt f_q76
  have m_q73 := hF.lt f_q73
  have m_q7 := hF.lt f_q7
  have m_q83 := hF.lt f_q83
  have m_q80 := hF.lt f_q80
  have m_q10 := hF.lt f_q10
  have m_q87 := hF.lt f_q87
  refine fw_callIN (As := []) (rest := [.ref q87, .int 1, .ref q13]) X bs_all nw_all mf_X2_init (c_X2_init l D cs _ _ q87 f_q87) nm_162 wm_163 rfl hF hS rfl ((⟨⟨Nat.le_of_ble_eq_true rfl, Nat.le_of_ble_eq_true rfl⟩, Nat.le_of_ble_eq_true rfl, Nat.le_of_ble_eq_true rfl⟩)) rfl hl.1 rfl (Nat.le_of_ble_eq_true rfl) dX8_init_138 (fun v u89 H locs hp hF hS hz1 hk1 hd1 => ?_)
  obtain ⟨hv1, q90, nq90, hw1⟩ := hp
  subst hv1
  have leq90 := (hd1 q90 (by rw [hw1, va_up_ne _ _ (Ne.symm (gx_ne f_q87 nq90)), va_up_self]; exact fun z => by cases z)).resolve_left (fun z => z nq90)
  have l_q19_q90 : q19 < q90 := Nat.lt_of_lt_of_le m_q19 leq90
  have l_q22_q90 : q22 < q90 := Nat.lt_of_lt_of_le m_q22 leq90
  have l_h0_q90 : h0 < q90 := Nat.lt_of_lt_of_le m_h0 leq90
  have l_q28_q90 : q28 < q90 := Nat.lt_of_lt_of_le m_q28 leq90
  have l_q35_q90 : q35 < q90 := Nat.lt_of_lt_of_le m_q35 leq90
  have l_q32_q90 : q32 < q90 := Nat.lt_of_lt_of_le m_q32 leq90
  have l_q42_q90 : q42 < q90 := Nat.lt_of_lt_of_le m_q42 leq90
  have l_q39_q90 : q39 < q90 := Nat.lt_of_lt_of_le m_q39 leq90
  have l_q49_q90 : q49 < q90 := Nat.lt_of_lt_of_le m_q49 leq90
  have l_q46_q90 : q46 < q90 := Nat.lt_of_lt_of_le m_q46 leq90
  have l_q56_q90 : q56 < q90 := Nat.lt_of_lt_of_le m_q56 leq90
  have l_q53_q90 : q53 < q90 := Nat.lt_of_lt_of_le m_q53 leq90
  have l_q13_q90 : q13 < q90 := Nat.lt_of_lt_of_le m_q13 leq90
  have l_q16_q90 : q16 < q90 := Nat.lt_of_lt_of_le m_q16 leq90
  have l_q62_q90 : q62 < q90 := Nat.lt_of_lt_of_le m_q62 leq90
  have l_q1_q90 : q1 < q90 := Nat.lt_of_lt_of_le m_q1 leq90
  have l_q69_q90 : q69 < q90 := Nat.lt_of_lt_of_le m_q69 leq90
  have l_q66_q90 : q66 < q90 := Nat.lt_of_lt_of_le m_q66 leq90
  have l_q4_q90 : q4 < q90 := Nat.lt_of_lt_of_le m_q4 leq90
  have l_q76_q90 : q76 < q90 := Nat.lt_of_lt_of_le m_q76 leq90
  have l_q73_q90 : q73 < q90 := Nat.lt_of_lt_of_le m_q73 leq90
  have l_q7_q90 : q7 < q90 := Nat.lt_of_lt_of_le m_q7 leq90
  have l_q83_q90 : q83 < q90 := Nat.lt_of_lt_of_le m_q83 leq90
  have l_q80_q90 : q80 < q90 := Nat.lt_of_lt_of_le m_q80 leq90
  have l_q10_q90 : q10 < q90 := Nat.lt_of_lt_of_le m_q10 leq90
  have l_q87_q90 : q87 < q90 := Nat.lt_of_lt_of_le m_q87 leq90
  clear m_q19 m_q22 m_h0 m_q28 m_q35 m_q32 m_q42 m_q39 m_q49 m_q46 m_q56 m_q53 m_q13 m_q16 m_q62 m_q1 m_q69 m_q66 m_q4 m_q76 m_q73 m_q7 m_q83 m_q80 m_q10 m_q87
  rw [hw1] at hF
  clear hw1 hd1 hk1
  obtain ⟨u91, hu91⟩ : ∃ y : fW, y = va_up u88 q90 (some (.inl (cs 8, 16, .inr (.inr (.inr (.inr (fun _ => none))))))) := ⟨_, rfl⟩
  rw [← hu91] at hF
  replace f_q19 : u91 q19 = some (.inl (cs 0, 8, .inl (fun _ => 0))) := by rw [hu91]; exact (va_up_ne _ _ (Nat.ne_of_lt l_q19_q90)).trans f_q19
  replace f_q22 : u91 q22 = some (.inr (4, [.int 0, .int 0, .int 0, .int (-1), .int 0, .long 0])) := by rw [hu91]; exact (va_up_ne _ _ (Nat.ne_of_lt l_q22_q90)).trans f_q22
  replace f_h0 : u91 h0 = some (.inr (8, [.ref q1, .ref q4, .ref q7, .ref q10, .ref q13, .ref q16, .ref q19, .ref q22])) := by rw [hu91]; exact (va_up_ne _ _ (Nat.ne_of_lt l_h0_q90)).trans f_h0
  replace f_q28 : u91 q28 = some (.inr (5, [.int 0, .int 0, .null, .null, .int 0, .int 0])) := by rw [hu91]; exact (va_up_ne _ _ (Nat.ne_of_lt l_q28_q90)).trans f_q28
  replace f_q35 : u91 q35 = some (.inl (cs 0, 12, .inl (fun _ => 0))) := by rw [hu91]; exact (va_up_ne _ _ (Nat.ne_of_lt l_q35_q90)).trans f_q35
  replace f_q32 : u91 q32 = some (.inr (0, [.ref q35, .int (-1)])) := by rw [hu91]; exact (va_up_ne _ _ (Nat.ne_of_lt l_q32_q90)).trans f_q32
  replace f_q42 : u91 q42 = some (.inl (cs 7, 12, .inr (.inr (.inr (.inr (fun _ => none)))))) := by rw [hu91]; exact (va_up_ne _ _ (Nat.ne_of_lt l_q42_q90)).trans f_q42
  replace f_q39 : u91 q39 = some (.inr (3, [.ref q42, .int (-1), .int 0])) := by rw [hu91]; exact (va_up_ne _ _ (Nat.ne_of_lt l_q39_q90)).trans f_q39
  replace f_q49 : u91 q49 = some (.inl (cs 0, 144, .inl (fun _ => 0))) := by rw [hu91]; exact (va_up_ne _ _ (Nat.ne_of_lt l_q49_q90)).trans f_q49
  replace f_q46 : u91 q46 = some (.inr (1, [.ref q49, .int (-1), .int 0])) := by rw [hu91]; exact (va_up_ne _ _ (Nat.ne_of_lt l_q46_q90)).trans f_q46
  replace f_q56 : u91 q56 = some (.inl (cs 8, 16, .inr (.inr (.inr (.inr (fun _ => none)))))) := by rw [hu91]; exact (va_up_ne _ _ (Nat.ne_of_lt l_q56_q90)).trans f_q56
  replace f_q53 : u91 q53 = some (.inr (2, [.ref q56, .int 0])) := by rw [hu91]; exact (va_up_ne _ _ (Nat.ne_of_lt l_q53_q90)).trans f_q53
  replace f_q13 : u91 q13 = some (.inl (cs 6, 4, .inr (.inr (.inr (.inr (va_up (fun _ => none) 0 (some q53))))))) := by rw [hu91]; exact (va_up_ne _ _ (Nat.ne_of_lt l_q13_q90)).trans f_q13
  replace f_q16 : u91 q16 = some (.inl (cs 0, 4, .inl (upd (fun _ => 0) 0 1))) := by rw [hu91]; exact (va_up_ne _ _ (Nat.ne_of_lt l_q16_q90)).trans f_q16
  replace f_q62 : u91 q62 = some (.inr (5, [.int 0, .int 0, .null, .null, .int 0, .int 0])) := by rw [hu91]; exact (va_up_ne _ _ (Nat.ne_of_lt l_q62_q90)).trans f_q62
  replace f_q1 : u91 q1 = some (.inl (cs 2, 4, .inr (.inr (.inr (.inr (va_up (va_up (fun _ => none) 0 (some q28)) 1 (some q62))))))) := by rw [hu91]; exact (va_up_ne _ _ (Nat.ne_of_lt l_q1_q90)).trans f_q1
  replace f_q69 : u91 q69 = some (.inl (cs 0, 12, .inl (fun _ => 0))) := by rw [hu91]; exact (va_up_ne _ _ (Nat.ne_of_lt l_q69_q90)).trans f_q69
  replace f_q66 : u91 q66 = some (.inr (0, [.ref q69, .int (-1)])) := by rw [hu91]; exact (va_up_ne _ _ (Nat.ne_of_lt l_q66_q90)).trans f_q66
  replace f_q4 : u91 q4 = some (.inl (cs 3, 4, .inr (.inr (.inr (.inr (va_up (va_up (fun _ => none) 0 (some q32)) 1 (some q66))))))) := by rw [hu91]; exact (va_up_ne _ _ (Nat.ne_of_lt l_q4_q90)).trans f_q4
  replace f_q76 : u91 q76 = some (.inl (cs 7, 12, .inr (.inr (.inr (.inr (fun _ => none)))))) := by rw [hu91]; exact (va_up_ne _ _ (Nat.ne_of_lt l_q76_q90)).trans f_q76
  replace f_q73 : u91 q73 = some (.inr (3, [.ref q76, .int (-1), .int 0])) := by rw [hu91]; exact (va_up_ne _ _ (Nat.ne_of_lt l_q73_q90)).trans f_q73
  replace f_q7 : u91 q7 = some (.inl (cs 4, 4, .inr (.inr (.inr (.inr (va_up (va_up (fun _ => none) 0 (some q39)) 1 (some q73))))))) := by rw [hu91]; exact (va_up_ne _ _ (Nat.ne_of_lt l_q7_q90)).trans f_q7
  replace f_q83 : u91 q83 = some (.inl (cs 0, 144, .inl (fun _ => 0))) := by rw [hu91]; exact (va_up_ne _ _ (Nat.ne_of_lt l_q83_q90)).trans f_q83
  replace f_q80 : u91 q80 = some (.inr (1, [.ref q83, .int (-1), .int 0])) := by rw [hu91]; exact (va_up_ne _ _ (Nat.ne_of_lt l_q80_q90)).trans f_q80
  replace f_q10 : u91 q10 = some (.inl (cs 5, 4, .inr (.inr (.inr (.inr (va_up (va_up (fun _ => none) 0 (some q46)) 1 (some q80))))))) := by rw [hu91]; exact (va_up_ne _ _ (Nat.ne_of_lt l_q10_q90)).trans f_q10
  replace f_q87 : u91 q87 = some (.inr (2, [.null, .int 0])) := by rw [hu91]; exact (va_up_ne _ _ (Nat.ne_of_lt l_q87_q90)).trans f_q87
  have f_q90 : u91 q90 = some (.inl (cs 8, 16, .inr (.inr (.inr (.inr (fun _ => none)))))) := by rw [hu91]; exact va_up_self _ _ _
  obtain ⟨u92, hu92⟩ : ∃ y : fW, y = va_up u91 q87 (some (.inr (2, [.ref q90, .int 0]))) := ⟨_, rfl⟩
  rw [← hu92] at hF
  replace f_q19 : u92 q19 = some (.inl (cs 0, 8, .inl (fun _ => 0))) := by rw [hu92]; exact (va_up_ne _ _ (Nat.ne_of_lt l_q19_q87)).trans f_q19
  replace f_q22 : u92 q22 = some (.inr (4, [.int 0, .int 0, .int 0, .int (-1), .int 0, .long 0])) := by rw [hu92]; exact (va_up_ne _ _ (Nat.ne_of_lt l_q22_q87)).trans f_q22
  replace f_h0 : u92 h0 = some (.inr (8, [.ref q1, .ref q4, .ref q7, .ref q10, .ref q13, .ref q16, .ref q19, .ref q22])) := by rw [hu92]; exact (va_up_ne _ _ (Nat.ne_of_lt l_h0_q87)).trans f_h0
  replace f_q28 : u92 q28 = some (.inr (5, [.int 0, .int 0, .null, .null, .int 0, .int 0])) := by rw [hu92]; exact (va_up_ne _ _ (Nat.ne_of_lt l_q28_q87)).trans f_q28
  replace f_q35 : u92 q35 = some (.inl (cs 0, 12, .inl (fun _ => 0))) := by rw [hu92]; exact (va_up_ne _ _ (Nat.ne_of_lt l_q35_q87)).trans f_q35
  replace f_q32 : u92 q32 = some (.inr (0, [.ref q35, .int (-1)])) := by rw [hu92]; exact (va_up_ne _ _ (Nat.ne_of_lt l_q32_q87)).trans f_q32
  replace f_q42 : u92 q42 = some (.inl (cs 7, 12, .inr (.inr (.inr (.inr (fun _ => none)))))) := by rw [hu92]; exact (va_up_ne _ _ (Nat.ne_of_lt l_q42_q87)).trans f_q42
  replace f_q39 : u92 q39 = some (.inr (3, [.ref q42, .int (-1), .int 0])) := by rw [hu92]; exact (va_up_ne _ _ (Nat.ne_of_lt l_q39_q87)).trans f_q39
  replace f_q49 : u92 q49 = some (.inl (cs 0, 144, .inl (fun _ => 0))) := by rw [hu92]; exact (va_up_ne _ _ (Nat.ne_of_lt l_q49_q87)).trans f_q49
  replace f_q46 : u92 q46 = some (.inr (1, [.ref q49, .int (-1), .int 0])) := by rw [hu92]; exact (va_up_ne _ _ (Nat.ne_of_lt l_q46_q87)).trans f_q46
  replace f_q56 : u92 q56 = some (.inl (cs 8, 16, .inr (.inr (.inr (.inr (fun _ => none)))))) := by rw [hu92]; exact (va_up_ne _ _ (Nat.ne_of_lt l_q56_q87)).trans f_q56
  replace f_q53 : u92 q53 = some (.inr (2, [.ref q56, .int 0])) := by rw [hu92]; exact (va_up_ne _ _ (Nat.ne_of_lt l_q53_q87)).trans f_q53
  replace f_q13 : u92 q13 = some (.inl (cs 6, 4, .inr (.inr (.inr (.inr (va_up (fun _ => none) 0 (some q53))))))) := by rw [hu92]; exact (va_up_ne _ _ (Nat.ne_of_lt l_q13_q87)).trans f_q13
  replace f_q16 : u92 q16 = some (.inl (cs 0, 4, .inl (upd (fun _ => 0) 0 1))) := by rw [hu92]; exact (va_up_ne _ _ (Nat.ne_of_lt l_q16_q87)).trans f_q16
  replace f_q62 : u92 q62 = some (.inr (5, [.int 0, .int 0, .null, .null, .int 0, .int 0])) := by rw [hu92]; exact (va_up_ne _ _ (Nat.ne_of_lt l_q62_q87)).trans f_q62
  replace f_q1 : u92 q1 = some (.inl (cs 2, 4, .inr (.inr (.inr (.inr (va_up (va_up (fun _ => none) 0 (some q28)) 1 (some q62))))))) := by rw [hu92]; exact (va_up_ne _ _ (Nat.ne_of_lt l_q1_q87)).trans f_q1
  replace f_q69 : u92 q69 = some (.inl (cs 0, 12, .inl (fun _ => 0))) := by rw [hu92]; exact (va_up_ne _ _ (Nat.ne_of_lt l_q69_q87)).trans f_q69
  replace f_q66 : u92 q66 = some (.inr (0, [.ref q69, .int (-1)])) := by rw [hu92]; exact (va_up_ne _ _ (Nat.ne_of_lt l_q66_q87)).trans f_q66
  replace f_q4 : u92 q4 = some (.inl (cs 3, 4, .inr (.inr (.inr (.inr (va_up (va_up (fun _ => none) 0 (some q32)) 1 (some q66))))))) := by rw [hu92]; exact (va_up_ne _ _ (Nat.ne_of_lt l_q4_q87)).trans f_q4
  replace f_q76 : u92 q76 = some (.inl (cs 7, 12, .inr (.inr (.inr (.inr (fun _ => none)))))) := by rw [hu92]; exact (va_up_ne _ _ (Nat.ne_of_lt l_q76_q87)).trans f_q76
  replace f_q73 : u92 q73 = some (.inr (3, [.ref q76, .int (-1), .int 0])) := by rw [hu92]; exact (va_up_ne _ _ (Nat.ne_of_lt l_q73_q87)).trans f_q73
  replace f_q7 : u92 q7 = some (.inl (cs 4, 4, .inr (.inr (.inr (.inr (va_up (va_up (fun _ => none) 0 (some q39)) 1 (some q73))))))) := by rw [hu92]; exact (va_up_ne _ _ (Nat.ne_of_lt l_q7_q87)).trans f_q7
  replace f_q83 : u92 q83 = some (.inl (cs 0, 144, .inl (fun _ => 0))) := by rw [hu92]; exact (va_up_ne _ _ (Nat.ne_of_lt l_q83_q87)).trans f_q83
  replace f_q80 : u92 q80 = some (.inr (1, [.ref q83, .int (-1), .int 0])) := by rw [hu92]; exact (va_up_ne _ _ (Nat.ne_of_lt l_q80_q87)).trans f_q80
  replace f_q10 : u92 q10 = some (.inl (cs 5, 4, .inr (.inr (.inr (.inr (va_up (va_up (fun _ => none) 0 (some q46)) 1 (some q80))))))) := by rw [hu92]; exact (va_up_ne _ _ (Nat.ne_of_lt l_q10_q87)).trans f_q10
  replace f_q90 : u92 q90 = some (.inl (cs 8, 16, .inr (.inr (.inr (.inr (fun _ => none)))))) := by rw [hu92]; exact (va_up_ne _ _ (Nat.ne_of_gt l_q87_q90)).trans f_q90
  replace f_q87 : u92 q87 = some (.inr (2, [.ref q90, .int 0])) := by rw [hu92]; exact va_up_self _ _ _
  refine W.eq (g2 := F0 m 141 ls [.ref q87, .int 1, .ref q13]) rfl ?_
  refine fw_astq X hF hS f_q13 6 rfl f_q87 rfl (vp_in_iff.mpr (by decide)) dX8_init_141 (fun H locs hF hS => ?_)
  have hF : fw_P D cls10 A (va_up u92 q13 (some (.inl (cs 6, 4, .inr (.inr (.inr (.inr (va_up (va_up (fun _ => none) 0 (some q53)) 1 (some q87))))))))) H := hF
  obtain ⟨u93, hu93⟩ : ∃ y : fW, y = va_up u92 q13 (some (.inl (cs 6, 4, .inr (.inr (.inr (.inr (va_up (va_up (fun _ => none) 0 (some q53)) 1 (some q87)))))))) := ⟨_, rfl⟩
  rw [← hu93] at hF
  replace f_q19 : u93 q19 = some (.inl (cs 0, 8, .inl (fun _ => 0))) := by rw [hu93]; exact (va_up_ne _ _ (Nat.ne_of_gt l_q13_q19)).trans f_q19
  replace f_q22 : u93 q22 = some (.inr (4, [.int 0, .int 0, .int 0, .int (-1), .int 0, .long 0])) := by rw [hu93]; exact (va_up_ne _ _ (Nat.ne_of_gt l_q13_q22)).trans f_q22
  replace f_h0 : u93 h0 = some (.inr (8, [.ref q1, .ref q4, .ref q7, .ref q10, .ref q13, .ref q16, .ref q19, .ref q22])) := by rw [hu93]; exact (va_up_ne _ _ (Nat.ne_of_lt l_h0_q13)).trans f_h0
  replace f_q28 : u93 q28 = some (.inr (5, [.int 0, .int 0, .null, .null, .int 0, .int 0])) := by rw [hu93]; exact (va_up_ne _ _ (Nat.ne_of_gt l_q13_q28)).trans f_q28
  replace f_q35 : u93 q35 = some (.inl (cs 0, 12, .inl (fun _ => 0))) := by rw [hu93]; exact (va_up_ne _ _ (Nat.ne_of_gt l_q13_q35)).trans f_q35
  replace f_q32 : u93 q32 = some (.inr (0, [.ref q35, .int (-1)])) := by rw [hu93]; exact (va_up_ne _ _ (Nat.ne_of_gt l_q13_q32)).trans f_q32
  replace f_q42 : u93 q42 = some (.inl (cs 7, 12, .inr (.inr (.inr (.inr (fun _ => none)))))) := by rw [hu93]; exact (va_up_ne _ _ (Nat.ne_of_gt l_q13_q42)).trans f_q42
  replace f_q39 : u93 q39 = some (.inr (3, [.ref q42, .int (-1), .int 0])) := by rw [hu93]; exact (va_up_ne _ _ (Nat.ne_of_gt l_q13_q39)).trans f_q39
  replace f_q49 : u93 q49 = some (.inl (cs 0, 144, .inl (fun _ => 0))) := by rw [hu93]; exact (va_up_ne _ _ (Nat.ne_of_gt l_q13_q49)).trans f_q49
  replace f_q46 : u93 q46 = some (.inr (1, [.ref q49, .int (-1), .int 0])) := by rw [hu93]; exact (va_up_ne _ _ (Nat.ne_of_gt l_q13_q46)).trans f_q46
  replace f_q56 : u93 q56 = some (.inl (cs 8, 16, .inr (.inr (.inr (.inr (fun _ => none)))))) := by rw [hu93]; exact (va_up_ne _ _ (Nat.ne_of_gt l_q13_q56)).trans f_q56
  replace f_q53 : u93 q53 = some (.inr (2, [.ref q56, .int 0])) := by rw [hu93]; exact (va_up_ne _ _ (Nat.ne_of_gt l_q13_q53)).trans f_q53
  replace f_q16 : u93 q16 = some (.inl (cs 0, 4, .inl (upd (fun _ => 0) 0 1))) := by rw [hu93]; exact (va_up_ne _ _ (Nat.ne_of_gt l_q13_q16)).trans f_q16
  replace f_q62 : u93 q62 = some (.inr (5, [.int 0, .int 0, .null, .null, .int 0, .int 0])) := by rw [hu93]; exact (va_up_ne _ _ (Nat.ne_of_gt l_q13_q62)).trans f_q62
  replace f_q1 : u93 q1 = some (.inl (cs 2, 4, .inr (.inr (.inr (.inr (va_up (va_up (fun _ => none) 0 (some q28)) 1 (some q62))))))) := by rw [hu93]; exact (va_up_ne _ _ (Nat.ne_of_lt l_q1_q13)).trans f_q1
  replace f_q69 : u93 q69 = some (.inl (cs 0, 12, .inl (fun _ => 0))) := by rw [hu93]; exact (va_up_ne _ _ (Nat.ne_of_gt l_q13_q69)).trans f_q69
  replace f_q66 : u93 q66 = some (.inr (0, [.ref q69, .int (-1)])) := by rw [hu93]; exact (va_up_ne _ _ (Nat.ne_of_gt l_q13_q66)).trans f_q66
  replace f_q4 : u93 q4 = some (.inl (cs 3, 4, .inr (.inr (.inr (.inr (va_up (va_up (fun _ => none) 0 (some q32)) 1 (some q66))))))) := by rw [hu93]; exact (va_up_ne _ _ (Nat.ne_of_lt l_q4_q13)).trans f_q4
  replace f_q76 : u93 q76 = some (.inl (cs 7, 12, .inr (.inr (.inr (.inr (fun _ => none)))))) := by rw [hu93]; exact (va_up_ne _ _ (Nat.ne_of_gt l_q13_q76)).trans f_q76
  replace f_q73 : u93 q73 = some (.inr (3, [.ref q76, .int (-1), .int 0])) := by rw [hu93]; exact (va_up_ne _ _ (Nat.ne_of_gt l_q13_q73)).trans f_q73
  replace f_q7 : u93 q7 = some (.inl (cs 4, 4, .inr (.inr (.inr (.inr (va_up (va_up (fun _ => none) 0 (some q39)) 1 (some q73))))))) := by rw [hu93]; exact (va_up_ne _ _ (Nat.ne_of_lt l_q7_q13)).trans f_q7
  replace f_q83 : u93 q83 = some (.inl (cs 0, 144, .inl (fun _ => 0))) := by rw [hu93]; exact (va_up_ne _ _ (Nat.ne_of_gt l_q13_q83)).trans f_q83
  replace f_q80 : u93 q80 = some (.inr (1, [.ref q83, .int (-1), .int 0])) := by rw [hu93]; exact (va_up_ne _ _ (Nat.ne_of_gt l_q13_q80)).trans f_q80
  replace f_q10 : u93 q10 = some (.inl (cs 5, 4, .inr (.inr (.inr (.inr (va_up (va_up (fun _ => none) 0 (some q46)) 1 (some q80))))))) := by rw [hu93]; exact (va_up_ne _ _ (Nat.ne_of_lt l_q10_q13)).trans f_q10
  replace f_q90 : u93 q90 = some (.inl (cs 8, 16, .inr (.inr (.inr (.inr (fun _ => none)))))) := by rw [hu93]; exact (va_up_ne _ _ (Nat.ne_of_gt l_q13_q90)).trans f_q90
  replace f_q87 : u93 q87 = some (.inr (2, [.ref q90, .int 0])) := by rw [hu93]; exact (va_up_ne _ _ (Nat.ne_of_gt l_q13_q87)).trans f_q87
  replace f_q13 : u93 q13 = some (.inl (cs 6, 4, .inr (.inr (.inr (.inr (va_up (va_up (fun _ => none) 0 (some q53)) 1 (some q87))))))) := by rw [hu93]; exact va_up_self _ _ _
  refine lv_aload_n hx hb dX8_init_142 rfl (lv_at hl 1 rfl) ?_
  refine fw_get X gC_ok hF f_h0 rfl 5 (by decide) wm_181 rfl dX8_init_143 ?_
  refine lv_iload_n hx hb dX8_init_146 rfl (lv_at hl 0 rfl) ?_
  refine lv_iconst (v := 1) hx hb dX8_init_147 (by decide) ?_
  refine fw_iast X hF hS f_q16 0 rfl (vp_in_iff.mpr (by decide)) dX8_init_148 (fun H locs hF hS => ?_)
  have hF : fw_P D cls10 A (va_up u93 q16 (some (.inl (cs 0, 4, .inl (upd (upd (fun _ => 0) 0 1) 1 1))))) H := hF
  obtain ⟨u94, hu94⟩ : ∃ y : fW, y = va_up u93 q16 (some (.inl (cs 0, 4, .inl (upd (upd (fun _ => 0) 0 1) 1 1)))) := ⟨_, rfl⟩
  rw [← hu94] at hF
  replace f_q19 : u94 q19 = some (.inl (cs 0, 8, .inl (fun _ => 0))) := by rw [hu94]; exact (va_up_ne _ _ (Nat.ne_of_gt l_q16_q19)).trans f_q19
  replace f_q22 : u94 q22 = some (.inr (4, [.int 0, .int 0, .int 0, .int (-1), .int 0, .long 0])) := by rw [hu94]; exact (va_up_ne _ _ (Nat.ne_of_gt l_q16_q22)).trans f_q22
  replace f_h0 : u94 h0 = some (.inr (8, [.ref q1, .ref q4, .ref q7, .ref q10, .ref q13, .ref q16, .ref q19, .ref q22])) := by rw [hu94]; exact (va_up_ne _ _ (Nat.ne_of_lt l_h0_q16)).trans f_h0
  replace f_q28 : u94 q28 = some (.inr (5, [.int 0, .int 0, .null, .null, .int 0, .int 0])) := by rw [hu94]; exact (va_up_ne _ _ (Nat.ne_of_gt l_q16_q28)).trans f_q28
  replace f_q35 : u94 q35 = some (.inl (cs 0, 12, .inl (fun _ => 0))) := by rw [hu94]; exact (va_up_ne _ _ (Nat.ne_of_gt l_q16_q35)).trans f_q35
  replace f_q32 : u94 q32 = some (.inr (0, [.ref q35, .int (-1)])) := by rw [hu94]; exact (va_up_ne _ _ (Nat.ne_of_gt l_q16_q32)).trans f_q32
  replace f_q42 : u94 q42 = some (.inl (cs 7, 12, .inr (.inr (.inr (.inr (fun _ => none)))))) := by rw [hu94]; exact (va_up_ne _ _ (Nat.ne_of_gt l_q16_q42)).trans f_q42
  replace f_q39 : u94 q39 = some (.inr (3, [.ref q42, .int (-1), .int 0])) := by rw [hu94]; exact (va_up_ne _ _ (Nat.ne_of_gt l_q16_q39)).trans f_q39
  replace f_q49 : u94 q49 = some (.inl (cs 0, 144, .inl (fun _ => 0))) := by rw [hu94]; exact (va_up_ne _ _ (Nat.ne_of_gt l_q16_q49)).trans f_q49
  replace f_q46 : u94 q46 = some (.inr (1, [.ref q49, .int (-1), .int 0])) := by rw [hu94]; exact (va_up_ne _ _ (Nat.ne_of_gt l_q16_q46)).trans f_q46
  replace f_q56 : u94 q56 = some (.inl (cs 8, 16, .inr (.inr (.inr (.inr (fun _ => none)))))) := by rw [hu94]; exact (va_up_ne _ _ (Nat.ne_of_gt l_q16_q56)).trans f_q56
  replace f_q53 : u94 q53 = some (.inr (2, [.ref q56, .int 0])) := by rw [hu94]; exact (va_up_ne _ _ (Nat.ne_of_gt l_q16_q53)).trans f_q53
  replace f_q62 : u94 q62 = some (.inr (5, [.int 0, .int 0, .null, .null, .int 0, .int 0])) := by rw [hu94]; exact (va_up_ne _ _ (Nat.ne_of_gt l_q16_q62)).trans f_q62
  replace f_q1 : u94 q1 = some (.inl (cs 2, 4, .inr (.inr (.inr (.inr (va_up (va_up (fun _ => none) 0 (some q28)) 1 (some q62))))))) := by rw [hu94]; exact (va_up_ne _ _ (Nat.ne_of_lt l_q1_q16)).trans f_q1
  replace f_q69 : u94 q69 = some (.inl (cs 0, 12, .inl (fun _ => 0))) := by rw [hu94]; exact (va_up_ne _ _ (Nat.ne_of_gt l_q16_q69)).trans f_q69
  replace f_q66 : u94 q66 = some (.inr (0, [.ref q69, .int (-1)])) := by rw [hu94]; exact (va_up_ne _ _ (Nat.ne_of_gt l_q16_q66)).trans f_q66
  replace f_q4 : u94 q4 = some (.inl (cs 3, 4, .inr (.inr (.inr (.inr (va_up (va_up (fun _ => none) 0 (some q32)) 1 (some q66))))))) := by rw [hu94]; exact (va_up_ne _ _ (Nat.ne_of_lt l_q4_q16)).trans f_q4
  replace f_q76 : u94 q76 = some (.inl (cs 7, 12, .inr (.inr (.inr (.inr (fun _ => none)))))) := by rw [hu94]; exact (va_up_ne _ _ (Nat.ne_of_gt l_q16_q76)).trans f_q76
  replace f_q73 : u94 q73 = some (.inr (3, [.ref q76, .int (-1), .int 0])) := by rw [hu94]; exact (va_up_ne _ _ (Nat.ne_of_gt l_q16_q73)).trans f_q73
  replace f_q7 : u94 q7 = some (.inl (cs 4, 4, .inr (.inr (.inr (.inr (va_up (va_up (fun _ => none) 0 (some q39)) 1 (some q73))))))) := by rw [hu94]; exact (va_up_ne _ _ (Nat.ne_of_lt l_q7_q16)).trans f_q7
  replace f_q83 : u94 q83 = some (.inl (cs 0, 144, .inl (fun _ => 0))) := by rw [hu94]; exact (va_up_ne _ _ (Nat.ne_of_gt l_q16_q83)).trans f_q83
  replace f_q80 : u94 q80 = some (.inr (1, [.ref q83, .int (-1), .int 0])) := by rw [hu94]; exact (va_up_ne _ _ (Nat.ne_of_gt l_q16_q80)).trans f_q80
  replace f_q10 : u94 q10 = some (.inl (cs 5, 4, .inr (.inr (.inr (.inr (va_up (va_up (fun _ => none) 0 (some q46)) 1 (some q80))))))) := by rw [hu94]; exact (va_up_ne _ _ (Nat.ne_of_lt l_q10_q16)).trans f_q10
  replace f_q90 : u94 q90 = some (.inl (cs 8, 16, .inr (.inr (.inr (.inr (fun _ => none)))))) := by rw [hu94]; exact (va_up_ne _ _ (Nat.ne_of_gt l_q16_q90)).trans f_q90
  replace f_q87 : u94 q87 = some (.inr (2, [.ref q90, .int 0])) := by rw [hu94]; exact (va_up_ne _ _ (Nat.ne_of_gt l_q16_q87)).trans f_q87
  replace f_q13 : u94 q13 = some (.inl (cs 6, 4, .inr (.inr (.inr (.inr (va_up (va_up (fun _ => none) 0 (some q53)) 1 (some q87))))))) := by rw [hu94]; exact (va_up_ne _ _ (Nat.ne_of_lt l_q13_q16)).trans f_q13
  replace f_q16 : u94 q16 = some (.inl (cs 0, 4, .inl (upd (upd (fun _ => 0) 0 1) 1 1))) := by rw [hu94]; exact va_up_self _ _ _
  refine lv_iinc (v := 2) (lv' := [(1, .int 2), (0, .ref h0)]) hx hb dX8_init_149 hl (k := 0) rfl (by decide) (by decide) rfl (fun ls hl => ?_)
  refine lv_goto (tgt := 72) hx hb dX8_init_152 (by decide) ?_
  refine lv_iload_n hx hb dX8_init_72 rfl (lv_at hl 0 rfl) ?_
  refine lv_iconst (v := 4) hx hb dX8_init_73 (by decide) ?_
  refine lv_icmp_ge (tgt := 155) hx hb dX8_init_74 (by decide) (fun h => absurd h (by decide)) (fun _ => ?_)
  refine lv_aload_n hx hb dX8_init_77 rfl (lv_at hl 1 rfl) ?_
  refine fw_get X gC_ok hF f_h0 rfl 0 (by decide) wm_176 rfl dX8_init_78 ?_
  refine lv_iload_n hx hb dX8_init_81 rfl (lv_at hl 0 rfl) ?_
  have m_q19 := hF.lt f_q19
  have m_q22 := hF.lt f_q22
  have m_h0 := hF.lt f_h0
  have m_q28 := hF.lt f_q28
  have m_q35 := hF.lt f_q35
  have m_q32 := hF.lt f_q32
  have m_q42 := hF.lt f_q42
  have m_q39 := hF.lt f_q39
  have m_q49 := hF.lt f_q49
  have m_q46 := hF.lt f_q46
  have m_q56 := hF.lt f_q56
  have m_q53 := hF.lt f_q53
  have m_q62 := hF.lt f_q62
  have m_q1 := hF.lt f_q1
  have m_q69 := hF.lt f_q69
  have m_q66 := hF.lt f_q66
  have m_q4 := hF.lt f_q4
  have m_q76 := hF.lt f_q76
  have m_q73 := hF.lt f_q73
  have m_q7 := hF.lt f_q7
  have m_q83 := hF.lt f_q83
  have m_q80 := hF.lt f_q80
  have m_q10 := hF.lt f_q10
  have m_q90 := hF.lt f_q90
  have m_q87 := hF.lt f_q87
  have m_q13 := hF.lt f_q13
  have m_q16 := hF.lt f_q16
  refine fw_new (ci := 5) (fs := [.int 0, .int 0, .null, .null, .int 0, .int 0]) X gC_ok hF hS rfl tyX5 tyX5_ok (by decide +kernel) wm_44 wm_86 wm_27 (Nat.le_of_ble_eq_true rfl) (Nat.le_of_ble_eq_true rfl) dX8_init_82 (fun q96 H nq96 zq96 zzq96 hF hS => ?_)
  have l_q19_q96 : q19 < q96 := Nat.lt_of_lt_of_le m_q19 (Nat.le_of_eq zq96.symm)
  have l_q22_q96 : q22 < q96 := Nat.lt_of_lt_of_le m_q22 (Nat.le_of_eq zq96.symm)
  have l_h0_q96 : h0 < q96 := Nat.lt_of_lt_of_le m_h0 (Nat.le_of_eq zq96.symm)
  have l_q28_q96 : q28 < q96 := Nat.lt_of_lt_of_le m_q28 (Nat.le_of_eq zq96.symm)
  have l_q35_q96 : q35 < q96 := Nat.lt_of_lt_of_le m_q35 (Nat.le_of_eq zq96.symm)
  have l_q32_q96 : q32 < q96 := Nat.lt_of_lt_of_le m_q32 (Nat.le_of_eq zq96.symm)
  have l_q42_q96 : q42 < q96 := Nat.lt_of_lt_of_le m_q42 (Nat.le_of_eq zq96.symm)
  have l_q39_q96 : q39 < q96 := Nat.lt_of_lt_of_le m_q39 (Nat.le_of_eq zq96.symm)
  have l_q49_q96 : q49 < q96 := Nat.lt_of_lt_of_le m_q49 (Nat.le_of_eq zq96.symm)
  have l_q46_q96 : q46 < q96 := Nat.lt_of_lt_of_le m_q46 (Nat.le_of_eq zq96.symm)
  have l_q56_q96 : q56 < q96 := Nat.lt_of_lt_of_le m_q56 (Nat.le_of_eq zq96.symm)
  have l_q53_q96 : q53 < q96 := Nat.lt_of_lt_of_le m_q53 (Nat.le_of_eq zq96.symm)
  have l_q62_q96 : q62 < q96 := Nat.lt_of_lt_of_le m_q62 (Nat.le_of_eq zq96.symm)
  have l_q1_q96 : q1 < q96 := Nat.lt_of_lt_of_le m_q1 (Nat.le_of_eq zq96.symm)
  have l_q69_q96 : q69 < q96 := Nat.lt_of_lt_of_le m_q69 (Nat.le_of_eq zq96.symm)
  have l_q66_q96 : q66 < q96 := Nat.lt_of_lt_of_le m_q66 (Nat.le_of_eq zq96.symm)
  have l_q4_q96 : q4 < q96 := Nat.lt_of_lt_of_le m_q4 (Nat.le_of_eq zq96.symm)
  have l_q76_q96 : q76 < q96 := Nat.lt_of_lt_of_le m_q76 (Nat.le_of_eq zq96.symm)
  have l_q73_q96 : q73 < q96 := Nat.lt_of_lt_of_le m_q73 (Nat.le_of_eq zq96.symm)
  have l_q7_q96 : q7 < q96 := Nat.lt_of_lt_of_le m_q7 (Nat.le_of_eq zq96.symm)
  have l_q83_q96 : q83 < q96 := Nat.lt_of_lt_of_le m_q83 (Nat.le_of_eq zq96.symm)
  have l_q80_q96 : q80 < q96 := Nat.lt_of_lt_of_le m_q80 (Nat.le_of_eq zq96.symm)
  have l_q10_q96 : q10 < q96 := Nat.lt_of_lt_of_le m_q10 (Nat.le_of_eq zq96.symm)
  have l_q90_q96 : q90 < q96 := Nat.lt_of_lt_of_le m_q90 (Nat.le_of_eq zq96.symm)
  have l_q87_q96 : q87 < q96 := Nat.lt_of_lt_of_le m_q87 (Nat.le_of_eq zq96.symm)
  have l_q13_q96 : q13 < q96 := Nat.lt_of_lt_of_le m_q13 (Nat.le_of_eq zq96.symm)
  have l_q16_q96 : q16 < q96 := Nat.lt_of_lt_of_le m_q16 (Nat.le_of_eq zq96.symm)
  clear m_q19 m_q22 m_h0 m_q28 m_q35 m_q32 m_q42 m_q39 m_q49 m_q46 m_q56 m_q53 m_q62 m_q1 m_q69 m_q66 m_q4 m_q76 m_q73 m_q7 m_q83 m_q80 m_q10 m_q90 m_q87 m_q13 m_q16
  have hF : fw_P D cls10 A (va_up u94 q96 (some (.inr (5, [.int 0, .int 0, .null, .null, .int 0, .int 0])))) H := hF
  obtain ⟨u97, hu97⟩ : ∃ y : fW, y = va_up u94 q96 (some (.inr (5, [.int 0, .int 0, .null, .null, .int 0, .int 0]))) := ⟨_, rfl⟩
  rw [← hu97] at hF
  replace f_q19 : u97 q19 = some (.inl (cs 0, 8, .inl (fun _ => 0))) := by rw [hu97]; exact (va_up_ne _ _ (Nat.ne_of_lt l_q19_q96)).trans f_q19
  replace f_q22 : u97 q22 = some (.inr (4, [.int 0, .int 0, .int 0, .int (-1), .int 0, .long 0])) := by rw [hu97]; exact (va_up_ne _ _ (Nat.ne_of_lt l_q22_q96)).trans f_q22
  replace f_h0 : u97 h0 = some (.inr (8, [.ref q1, .ref q4, .ref q7, .ref q10, .ref q13, .ref q16, .ref q19, .ref q22])) := by rw [hu97]; exact (va_up_ne _ _ (Nat.ne_of_lt l_h0_q96)).trans f_h0
  replace f_q28 : u97 q28 = some (.inr (5, [.int 0, .int 0, .null, .null, .int 0, .int 0])) := by rw [hu97]; exact (va_up_ne _ _ (Nat.ne_of_lt l_q28_q96)).trans f_q28
  replace f_q35 : u97 q35 = some (.inl (cs 0, 12, .inl (fun _ => 0))) := by rw [hu97]; exact (va_up_ne _ _ (Nat.ne_of_lt l_q35_q96)).trans f_q35
  replace f_q32 : u97 q32 = some (.inr (0, [.ref q35, .int (-1)])) := by rw [hu97]; exact (va_up_ne _ _ (Nat.ne_of_lt l_q32_q96)).trans f_q32
  replace f_q42 : u97 q42 = some (.inl (cs 7, 12, .inr (.inr (.inr (.inr (fun _ => none)))))) := by rw [hu97]; exact (va_up_ne _ _ (Nat.ne_of_lt l_q42_q96)).trans f_q42
  replace f_q39 : u97 q39 = some (.inr (3, [.ref q42, .int (-1), .int 0])) := by rw [hu97]; exact (va_up_ne _ _ (Nat.ne_of_lt l_q39_q96)).trans f_q39
  replace f_q49 : u97 q49 = some (.inl (cs 0, 144, .inl (fun _ => 0))) := by rw [hu97]; exact (va_up_ne _ _ (Nat.ne_of_lt l_q49_q96)).trans f_q49
  replace f_q46 : u97 q46 = some (.inr (1, [.ref q49, .int (-1), .int 0])) := by rw [hu97]; exact (va_up_ne _ _ (Nat.ne_of_lt l_q46_q96)).trans f_q46
  replace f_q56 : u97 q56 = some (.inl (cs 8, 16, .inr (.inr (.inr (.inr (fun _ => none)))))) := by rw [hu97]; exact (va_up_ne _ _ (Nat.ne_of_lt l_q56_q96)).trans f_q56
  replace f_q53 : u97 q53 = some (.inr (2, [.ref q56, .int 0])) := by rw [hu97]; exact (va_up_ne _ _ (Nat.ne_of_lt l_q53_q96)).trans f_q53
  replace f_q62 : u97 q62 = some (.inr (5, [.int 0, .int 0, .null, .null, .int 0, .int 0])) := by rw [hu97]; exact (va_up_ne _ _ (Nat.ne_of_lt l_q62_q96)).trans f_q62
  replace f_q1 : u97 q1 = some (.inl (cs 2, 4, .inr (.inr (.inr (.inr (va_up (va_up (fun _ => none) 0 (some q28)) 1 (some q62))))))) := by rw [hu97]; exact (va_up_ne _ _ (Nat.ne_of_lt l_q1_q96)).trans f_q1
  replace f_q69 : u97 q69 = some (.inl (cs 0, 12, .inl (fun _ => 0))) := by rw [hu97]; exact (va_up_ne _ _ (Nat.ne_of_lt l_q69_q96)).trans f_q69
  replace f_q66 : u97 q66 = some (.inr (0, [.ref q69, .int (-1)])) := by rw [hu97]; exact (va_up_ne _ _ (Nat.ne_of_lt l_q66_q96)).trans f_q66
  replace f_q4 : u97 q4 = some (.inl (cs 3, 4, .inr (.inr (.inr (.inr (va_up (va_up (fun _ => none) 0 (some q32)) 1 (some q66))))))) := by rw [hu97]; exact (va_up_ne _ _ (Nat.ne_of_lt l_q4_q96)).trans f_q4
  replace f_q76 : u97 q76 = some (.inl (cs 7, 12, .inr (.inr (.inr (.inr (fun _ => none)))))) := by rw [hu97]; exact (va_up_ne _ _ (Nat.ne_of_lt l_q76_q96)).trans f_q76
  replace f_q73 : u97 q73 = some (.inr (3, [.ref q76, .int (-1), .int 0])) := by rw [hu97]; exact (va_up_ne _ _ (Nat.ne_of_lt l_q73_q96)).trans f_q73
  replace f_q7 : u97 q7 = some (.inl (cs 4, 4, .inr (.inr (.inr (.inr (va_up (va_up (fun _ => none) 0 (some q39)) 1 (some q73))))))) := by rw [hu97]; exact (va_up_ne _ _ (Nat.ne_of_lt l_q7_q96)).trans f_q7
  replace f_q83 : u97 q83 = some (.inl (cs 0, 144, .inl (fun _ => 0))) := by rw [hu97]; exact (va_up_ne _ _ (Nat.ne_of_lt l_q83_q96)).trans f_q83
  replace f_q80 : u97 q80 = some (.inr (1, [.ref q83, .int (-1), .int 0])) := by rw [hu97]; exact (va_up_ne _ _ (Nat.ne_of_lt l_q80_q96)).trans f_q80
  replace f_q10 : u97 q10 = some (.inl (cs 5, 4, .inr (.inr (.inr (.inr (va_up (va_up (fun _ => none) 0 (some q46)) 1 (some q80))))))) := by rw [hu97]; exact (va_up_ne _ _ (Nat.ne_of_lt l_q10_q96)).trans f_q10
  replace f_q90 : u97 q90 = some (.inl (cs 8, 16, .inr (.inr (.inr (.inr (fun _ => none)))))) := by rw [hu97]; exact (va_up_ne _ _ (Nat.ne_of_lt l_q90_q96)).trans f_q90
  replace f_q87 : u97 q87 = some (.inr (2, [.ref q90, .int 0])) := by rw [hu97]; exact (va_up_ne _ _ (Nat.ne_of_lt l_q87_q96)).trans f_q87
  replace f_q13 : u97 q13 = some (.inl (cs 6, 4, .inr (.inr (.inr (.inr (va_up (va_up (fun _ => none) 0 (some q53)) 1 (some q87))))))) := by rw [hu97]; exact (va_up_ne _ _ (Nat.ne_of_lt l_q13_q96)).trans f_q13
  replace f_q16 : u97 q16 = some (.inl (cs 0, 4, .inl (upd (upd (fun _ => 0) 0 1) 1 1))) := by rw [hu97]; exact (va_up_ne _ _ (Nat.ne_of_lt l_q16_q96)).trans f_q16
  have f_q96 : u97 q96 = some (.inr (5, [.int 0, .int 0, .null, .null, .int 0, .int 0])) := by rw [hu97]; exact va_up_self _ _ _
  refine lv_dup hx hb dX8_init_85 rfl ?_
  refine fw_callIN (As := []) (rest := [.ref q96, .int 2, .ref q1]) X bs_all nw_all mf_X5_init (c_X5_init l D cs _ _ q96 false 0 none none 0 0 f_q96) nm_87 wm_88 rfl hF hS rfl ((⟨⟨Nat.le_of_ble_eq_true rfl, Nat.le_of_ble_eq_true rfl⟩, Nat.le_of_ble_eq_true rfl, Nat.le_of_ble_eq_true rfl⟩)) rfl hl.1 rfl (Nat.le_of_ble_eq_true rfl) dX8_init_86 (fun v u98 H locs hp hF hS hz1 hk1 hd1 => ?_)
  obtain ⟨hv1, hw1⟩ := hp
  subst hv1
  rw [hw1] at hF
  clear hw1 hd1 hk1
  refine W.eq (g2 := F0 m 89 ls [.ref q96, .int 2, .ref q1]) rfl ?_
  refine fw_astq X hF hS f_q1 2 rfl f_q96 rfl (vp_in_iff.mpr (by decide)) dX8_init_89 (fun H locs hF hS => ?_)
  have hF : fw_P D cls10 A (va_up u97 q1 (some (.inl (cs 2, 4, .inr (.inr (.inr (.inr (va_up (va_up (va_up (fun _ => none) 0 (some q28)) 1 (some q62)) 2 (some q96))))))))) H := hF
  obtain ⟨u99, hu99⟩ : ∃ y : fW, y = va_up u97 q1 (some (.inl (cs 2, 4, .inr (.inr (.inr (.inr (va_up (va_up (va_up (fun _ => none) 0 (some q28)) 1 (some q62)) 2 (some q96)))))))) := ⟨_, rfl⟩
  rw [← hu99] at hF
  replace f_q19 : u99 q19 = some (.inl (cs 0, 8, .inl (fun _ => 0))) := by rw [hu99]; exact (va_up_ne _ _ (Nat.ne_of_gt l_q1_q19)).trans f_q19
  replace f_q22 : u99 q22 = some (.inr (4, [.int 0, .int 0, .int 0, .int (-1), .int 0, .long 0])) := by rw [hu99]; exact (va_up_ne _ _ (Nat.ne_of_gt l_q1_q22)).trans f_q22
  replace f_h0 : u99 h0 = some (.inr (8, [.ref q1, .ref q4, .ref q7, .ref q10, .ref q13, .ref q16, .ref q19, .ref q22])) := by rw [hu99]; exact (va_up_ne _ _ (Nat.ne_of_lt l_h0_q1)).trans f_h0
  replace f_q28 : u99 q28 = some (.inr (5, [.int 0, .int 0, .null, .null, .int 0, .int 0])) := by rw [hu99]; exact (va_up_ne _ _ (Nat.ne_of_gt l_q1_q28)).trans f_q28
  replace f_q35 : u99 q35 = some (.inl (cs 0, 12, .inl (fun _ => 0))) := by rw [hu99]; exact (va_up_ne _ _ (Nat.ne_of_gt l_q1_q35)).trans f_q35
  replace f_q32 : u99 q32 = some (.inr (0, [.ref q35, .int (-1)])) := by rw [hu99]; exact (va_up_ne _ _ (Nat.ne_of_gt l_q1_q32)).trans f_q32
  replace f_q42 : u99 q42 = some (.inl (cs 7, 12, .inr (.inr (.inr (.inr (fun _ => none)))))) := by rw [hu99]; exact (va_up_ne _ _ (Nat.ne_of_gt l_q1_q42)).trans f_q42
  replace f_q39 : u99 q39 = some (.inr (3, [.ref q42, .int (-1), .int 0])) := by rw [hu99]; exact (va_up_ne _ _ (Nat.ne_of_gt l_q1_q39)).trans f_q39
  replace f_q49 : u99 q49 = some (.inl (cs 0, 144, .inl (fun _ => 0))) := by rw [hu99]; exact (va_up_ne _ _ (Nat.ne_of_gt l_q1_q49)).trans f_q49
  replace f_q46 : u99 q46 = some (.inr (1, [.ref q49, .int (-1), .int 0])) := by rw [hu99]; exact (va_up_ne _ _ (Nat.ne_of_gt l_q1_q46)).trans f_q46
  replace f_q56 : u99 q56 = some (.inl (cs 8, 16, .inr (.inr (.inr (.inr (fun _ => none)))))) := by rw [hu99]; exact (va_up_ne _ _ (Nat.ne_of_gt l_q1_q56)).trans f_q56
  replace f_q53 : u99 q53 = some (.inr (2, [.ref q56, .int 0])) := by rw [hu99]; exact (va_up_ne _ _ (Nat.ne_of_gt l_q1_q53)).trans f_q53
  replace f_q62 : u99 q62 = some (.inr (5, [.int 0, .int 0, .null, .null, .int 0, .int 0])) := by rw [hu99]; exact (va_up_ne _ _ (Nat.ne_of_gt l_q1_q62)).trans f_q62
  replace f_q69 : u99 q69 = some (.inl (cs 0, 12, .inl (fun _ => 0))) := by rw [hu99]; exact (va_up_ne _ _ (Nat.ne_of_gt l_q1_q69)).trans f_q69
  replace f_q66 : u99 q66 = some (.inr (0, [.ref q69, .int (-1)])) := by rw [hu99]; exact (va_up_ne _ _ (Nat.ne_of_gt l_q1_q66)).trans f_q66
  replace f_q4 : u99 q4 = some (.inl (cs 3, 4, .inr (.inr (.inr (.inr (va_up (va_up (fun _ => none) 0 (some q32)) 1 (some q66))))))) := by rw [hu99]; exact (va_up_ne _ _ (Nat.ne_of_gt l_q1_q4)).trans f_q4
  replace f_q76 : u99 q76 = some (.inl (cs 7, 12, .inr (.inr (.inr (.inr (fun _ => none)))))) := by rw [hu99]; exact (va_up_ne _ _ (Nat.ne_of_gt l_q1_q76)).trans f_q76
  replace f_q73 : u99 q73 = some (.inr (3, [.ref q76, .int (-1), .int 0])) := by rw [hu99]; exact (va_up_ne _ _ (Nat.ne_of_gt l_q1_q73)).trans f_q73
  replace f_q7 : u99 q7 = some (.inl (cs 4, 4, .inr (.inr (.inr (.inr (va_up (va_up (fun _ => none) 0 (some q39)) 1 (some q73))))))) := by rw [hu99]; exact (va_up_ne _ _ (Nat.ne_of_gt l_q1_q7)).trans f_q7
  replace f_q83 : u99 q83 = some (.inl (cs 0, 144, .inl (fun _ => 0))) := by rw [hu99]; exact (va_up_ne _ _ (Nat.ne_of_gt l_q1_q83)).trans f_q83
  replace f_q80 : u99 q80 = some (.inr (1, [.ref q83, .int (-1), .int 0])) := by rw [hu99]; exact (va_up_ne _ _ (Nat.ne_of_gt l_q1_q80)).trans f_q80
  replace f_q10 : u99 q10 = some (.inl (cs 5, 4, .inr (.inr (.inr (.inr (va_up (va_up (fun _ => none) 0 (some q46)) 1 (some q80))))))) := by rw [hu99]; exact (va_up_ne _ _ (Nat.ne_of_gt l_q1_q10)).trans f_q10
  replace f_q90 : u99 q90 = some (.inl (cs 8, 16, .inr (.inr (.inr (.inr (fun _ => none)))))) := by rw [hu99]; exact (va_up_ne _ _ (Nat.ne_of_gt l_q1_q90)).trans f_q90
  replace f_q87 : u99 q87 = some (.inr (2, [.ref q90, .int 0])) := by rw [hu99]; exact (va_up_ne _ _ (Nat.ne_of_gt l_q1_q87)).trans f_q87
  replace f_q13 : u99 q13 = some (.inl (cs 6, 4, .inr (.inr (.inr (.inr (va_up (va_up (fun _ => none) 0 (some q53)) 1 (some q87))))))) := by rw [hu99]; exact (va_up_ne _ _ (Nat.ne_of_gt l_q1_q13)).trans f_q13
  replace f_q16 : u99 q16 = some (.inl (cs 0, 4, .inl (upd (upd (fun _ => 0) 0 1) 1 1))) := by rw [hu99]; exact (va_up_ne _ _ (Nat.ne_of_gt l_q1_q16)).trans f_q16
  replace f_q96 : u99 q96 = some (.inr (5, [.int 0, .int 0, .null, .null, .int 0, .int 0])) := by rw [hu99]; exact (va_up_ne _ _ (Nat.ne_of_gt l_q1_q96)).trans f_q96
  replace f_q1 : u99 q1 = some (.inl (cs 2, 4, .inr (.inr (.inr (.inr (va_up (va_up (va_up (fun _ => none) 0 (some q28)) 1 (some q62)) 2 (some q96))))))) := by rw [hu99]; exact va_up_self _ _ _
  refine lv_aload_n hx hb dX8_init_90 rfl (lv_at hl 1 rfl) ?_
  refine fw_get X gC_ok hF f_h0 rfl 1 (by decide) wm_177 rfl dX8_init_91 ?_
  refine lv_iload_n hx hb dX8_init_94 rfl (lv_at hl 0 rfl) ?_
  have m_q19 := hF.lt f_q19
  have m_q22 := hF.lt f_q22
  have m_h0 := hF.lt f_h0
  have m_q28 := hF.lt f_q28
  have m_q35 := hF.lt f_q35
  have m_q32 := hF.lt f_q32
  have m_q42 := hF.lt f_q42
  have m_q39 := hF.lt f_q39
  have m_q49 := hF.lt f_q49
  have m_q46 := hF.lt f_q46
  have m_q56 := hF.lt f_q56
  have m_q53 := hF.lt f_q53
  have m_q62 := hF.lt f_q62
  have m_q69 := hF.lt f_q69
  have m_q66 := hF.lt f_q66
  have m_q4 := hF.lt f_q4
  have m_q76 := hF.lt f_q76
  have m_q73 := hF.lt f_q73
  have m_q7 := hF.lt f_q7
  have m_q83 := hF.lt f_q83
  have m_q80 := hF.lt f_q80
  have m_q10 := hF.lt f_q10
  have m_q90 := hF.lt f_q90
  have m_q87 := hF.lt f_q87
  have m_q13 := hF.lt f_q13
  have m_q16 := hF.lt f_q16
  have m_q96 := hF.lt f_q96
  have m_q1 := hF.lt f_q1
  refine fw_new (ci := 0) (fs := [.null, .int 0]) X gC_ok hF hS rfl tyX0 tyX0_ok (by decide +kernel) wm_46 wm_114 wm_28 (Nat.le_of_ble_eq_true rfl) (Nat.le_of_ble_eq_true rfl) dX8_init_95 (fun q100 H nq100 zq100 zzq100 hF hS => ?_)
  have l_q19_q100 : q19 < q100 := Nat.lt_of_lt_of_le m_q19 (Nat.le_of_eq zq100.symm)
  have l_q22_q100 : q22 < q100 := Nat.lt_of_lt_of_le m_q22 (Nat.le_of_eq zq100.symm)
  have l_h0_q100 : h0 < q100 := Nat.lt_of_lt_of_le m_h0 (Nat.le_of_eq zq100.symm)
  have l_q28_q100 : q28 < q100 := Nat.lt_of_lt_of_le m_q28 (Nat.le_of_eq zq100.symm)
  have l_q35_q100 : q35 < q100 := Nat.lt_of_lt_of_le m_q35 (Nat.le_of_eq zq100.symm)
  have l_q32_q100 : q32 < q100 := Nat.lt_of_lt_of_le m_q32 (Nat.le_of_eq zq100.symm)
  have l_q42_q100 : q42 < q100 := Nat.lt_of_lt_of_le m_q42 (Nat.le_of_eq zq100.symm)
  have l_q39_q100 : q39 < q100 := Nat.lt_of_lt_of_le m_q39 (Nat.le_of_eq zq100.symm)
  have l_q49_q100 : q49 < q100 := Nat.lt_of_lt_of_le m_q49 (Nat.le_of_eq zq100.symm)
  have l_q46_q100 : q46 < q100 := Nat.lt_of_lt_of_le m_q46 (Nat.le_of_eq zq100.symm)
  have l_q56_q100 : q56 < q100 := Nat.lt_of_lt_of_le m_q56 (Nat.le_of_eq zq100.symm)
  have l_q53_q100 : q53 < q100 := Nat.lt_of_lt_of_le m_q53 (Nat.le_of_eq zq100.symm)
  have l_q62_q100 : q62 < q100 := Nat.lt_of_lt_of_le m_q62 (Nat.le_of_eq zq100.symm)
  have l_q69_q100 : q69 < q100 := Nat.lt_of_lt_of_le m_q69 (Nat.le_of_eq zq100.symm)
  have l_q66_q100 : q66 < q100 := Nat.lt_of_lt_of_le m_q66 (Nat.le_of_eq zq100.symm)
  have l_q4_q100 : q4 < q100 := Nat.lt_of_lt_of_le m_q4 (Nat.le_of_eq zq100.symm)
  have l_q76_q100 : q76 < q100 := Nat.lt_of_lt_of_le m_q76 (Nat.le_of_eq zq100.symm)
  have l_q73_q100 : q73 < q100 := Nat.lt_of_lt_of_le m_q73 (Nat.le_of_eq zq100.symm)
  have l_q7_q100 : q7 < q100 := Nat.lt_of_lt_of_le m_q7 (Nat.le_of_eq zq100.symm)
  have l_q83_q100 : q83 < q100 := Nat.lt_of_lt_of_le m_q83 (Nat.le_of_eq zq100.symm)
  have l_q80_q100 : q80 < q100 := Nat.lt_of_lt_of_le m_q80 (Nat.le_of_eq zq100.symm)
  have l_q10_q100 : q10 < q100 := Nat.lt_of_lt_of_le m_q10 (Nat.le_of_eq zq100.symm)
  have l_q90_q100 : q90 < q100 := Nat.lt_of_lt_of_le m_q90 (Nat.le_of_eq zq100.symm)
  have l_q87_q100 : q87 < q100 := Nat.lt_of_lt_of_le m_q87 (Nat.le_of_eq zq100.symm)
  have l_q13_q100 : q13 < q100 := Nat.lt_of_lt_of_le m_q13 (Nat.le_of_eq zq100.symm)
  have l_q16_q100 : q16 < q100 := Nat.lt_of_lt_of_le m_q16 (Nat.le_of_eq zq100.symm)
  have l_q96_q100 : q96 < q100 := Nat.lt_of_lt_of_le m_q96 (Nat.le_of_eq zq100.symm)
  have l_q1_q100 : q1 < q100 := Nat.lt_of_lt_of_le m_q1 (Nat.le_of_eq zq100.symm)
  clear m_q19 m_q22 m_h0 m_q28 m_q35 m_q32 m_q42 m_q39 m_q49 m_q46 m_q56 m_q53 m_q62 m_q69 m_q66 m_q4 m_q76 m_q73 m_q7 m_q83 m_q80 m_q10 m_q90 m_q87 m_q13 m_q16 m_q96 m_q1
  have hF : fw_P D cls10 A (va_up u99 q100 (some (.inr (0, [.null, .int 0])))) H := hF
  obtain ⟨u101, hu101⟩ : ∃ y : fW, y = va_up u99 q100 (some (.inr (0, [.null, .int 0]))) := ⟨_, rfl⟩
  rw [← hu101] at hF
  replace f_q19 : u101 q19 = some (.inl (cs 0, 8, .inl (fun _ => 0))) := by rw [hu101]; exact (va_up_ne _ _ (Nat.ne_of_lt l_q19_q100)).trans f_q19
  replace f_q22 : u101 q22 = some (.inr (4, [.int 0, .int 0, .int 0, .int (-1), .int 0, .long 0])) := by rw [hu101]; exact (va_up_ne _ _ (Nat.ne_of_lt l_q22_q100)).trans f_q22
  replace f_h0 : u101 h0 = some (.inr (8, [.ref q1, .ref q4, .ref q7, .ref q10, .ref q13, .ref q16, .ref q19, .ref q22])) := by rw [hu101]; exact (va_up_ne _ _ (Nat.ne_of_lt l_h0_q100)).trans f_h0
  replace f_q28 : u101 q28 = some (.inr (5, [.int 0, .int 0, .null, .null, .int 0, .int 0])) := by rw [hu101]; exact (va_up_ne _ _ (Nat.ne_of_lt l_q28_q100)).trans f_q28
  replace f_q35 : u101 q35 = some (.inl (cs 0, 12, .inl (fun _ => 0))) := by rw [hu101]; exact (va_up_ne _ _ (Nat.ne_of_lt l_q35_q100)).trans f_q35
  replace f_q32 : u101 q32 = some (.inr (0, [.ref q35, .int (-1)])) := by rw [hu101]; exact (va_up_ne _ _ (Nat.ne_of_lt l_q32_q100)).trans f_q32
  replace f_q42 : u101 q42 = some (.inl (cs 7, 12, .inr (.inr (.inr (.inr (fun _ => none)))))) := by rw [hu101]; exact (va_up_ne _ _ (Nat.ne_of_lt l_q42_q100)).trans f_q42
  replace f_q39 : u101 q39 = some (.inr (3, [.ref q42, .int (-1), .int 0])) := by rw [hu101]; exact (va_up_ne _ _ (Nat.ne_of_lt l_q39_q100)).trans f_q39
  replace f_q49 : u101 q49 = some (.inl (cs 0, 144, .inl (fun _ => 0))) := by rw [hu101]; exact (va_up_ne _ _ (Nat.ne_of_lt l_q49_q100)).trans f_q49
  replace f_q46 : u101 q46 = some (.inr (1, [.ref q49, .int (-1), .int 0])) := by rw [hu101]; exact (va_up_ne _ _ (Nat.ne_of_lt l_q46_q100)).trans f_q46
  replace f_q56 : u101 q56 = some (.inl (cs 8, 16, .inr (.inr (.inr (.inr (fun _ => none)))))) := by rw [hu101]; exact (va_up_ne _ _ (Nat.ne_of_lt l_q56_q100)).trans f_q56
  replace f_q53 : u101 q53 = some (.inr (2, [.ref q56, .int 0])) := by rw [hu101]; exact (va_up_ne _ _ (Nat.ne_of_lt l_q53_q100)).trans f_q53
  replace f_q62 : u101 q62 = some (.inr (5, [.int 0, .int 0, .null, .null, .int 0, .int 0])) := by rw [hu101]; exact (va_up_ne _ _ (Nat.ne_of_lt l_q62_q100)).trans f_q62
  replace f_q69 : u101 q69 = some (.inl (cs 0, 12, .inl (fun _ => 0))) := by rw [hu101]; exact (va_up_ne _ _ (Nat.ne_of_lt l_q69_q100)).trans f_q69
  replace f_q66 : u101 q66 = some (.inr (0, [.ref q69, .int (-1)])) := by rw [hu101]; exact (va_up_ne _ _ (Nat.ne_of_lt l_q66_q100)).trans f_q66
  replace f_q4 : u101 q4 = some (.inl (cs 3, 4, .inr (.inr (.inr (.inr (va_up (va_up (fun _ => none) 0 (some q32)) 1 (some q66))))))) := by rw [hu101]; exact (va_up_ne _ _ (Nat.ne_of_lt l_q4_q100)).trans f_q4
  replace f_q76 : u101 q76 = some (.inl (cs 7, 12, .inr (.inr (.inr (.inr (fun _ => none)))))) := by rw [hu101]; exact (va_up_ne _ _ (Nat.ne_of_lt l_q76_q100)).trans f_q76
  replace f_q73 : u101 q73 = some (.inr (3, [.ref q76, .int (-1), .int 0])) := by rw [hu101]; exact (va_up_ne _ _ (Nat.ne_of_lt l_q73_q100)).trans f_q73
  replace f_q7 : u101 q7 = some (.inl (cs 4, 4, .inr (.inr (.inr (.inr (va_up (va_up (fun _ => none) 0 (some q39)) 1 (some q73))))))) := by rw [hu101]; exact (va_up_ne _ _ (Nat.ne_of_lt l_q7_q100)).trans f_q7
  replace f_q83 : u101 q83 = some (.inl (cs 0, 144, .inl (fun _ => 0))) := by rw [hu101]; exact (va_up_ne _ _ (Nat.ne_of_lt l_q83_q100)).trans f_q83
  replace f_q80 : u101 q80 = some (.inr (1, [.ref q83, .int (-1), .int 0])) := by rw [hu101]; exact (va_up_ne _ _ (Nat.ne_of_lt l_q80_q100)).trans f_q80
  replace f_q10 : u101 q10 = some (.inl (cs 5, 4, .inr (.inr (.inr (.inr (va_up (va_up (fun _ => none) 0 (some q46)) 1 (some q80))))))) := by rw [hu101]; exact (va_up_ne _ _ (Nat.ne_of_lt l_q10_q100)).trans f_q10
  replace f_q90 : u101 q90 = some (.inl (cs 8, 16, .inr (.inr (.inr (.inr (fun _ => none)))))) := by rw [hu101]; exact (va_up_ne _ _ (Nat.ne_of_lt l_q90_q100)).trans f_q90
  replace f_q87 : u101 q87 = some (.inr (2, [.ref q90, .int 0])) := by rw [hu101]; exact (va_up_ne _ _ (Nat.ne_of_lt l_q87_q100)).trans f_q87
  replace f_q13 : u101 q13 = some (.inl (cs 6, 4, .inr (.inr (.inr (.inr (va_up (va_up (fun _ => none) 0 (some q53)) 1 (some q87))))))) := by rw [hu101]; exact (va_up_ne _ _ (Nat.ne_of_lt l_q13_q100)).trans f_q13
  replace f_q16 : u101 q16 = some (.inl (cs 0, 4, .inl (upd (upd (fun _ => 0) 0 1) 1 1))) := by rw [hu101]; exact (va_up_ne _ _ (Nat.ne_of_lt l_q16_q100)).trans f_q16
  replace f_q96 : u101 q96 = some (.inr (5, [.int 0, .int 0, .null, .null, .int 0, .int 0])) := by rw [hu101]; exact (va_up_ne _ _ (Nat.ne_of_lt l_q96_q100)).trans f_q96
  replace f_q1 : u101 q1 = some (.inl (cs 2, 4, .inr (.inr (.inr (.inr (va_up (va_up (va_up (fun _ => none) 0 (some q28)) 1 (some q62)) 2 (some q96))))))) := by rw [hu101]; exact (va_up_ne _ _ (Nat.ne_of_lt l_q1_q100)).trans f_q1
  have f_q100 : u101 q100 = some (.inr (0, [.null, .int 0])) := by rw [hu101]; exact va_up_self _ _ _
  refine lv_dup hx hb dX8_init_98 rfl ?_
  have m_q19 := hF.lt f_q19
  have m_q22 := hF.lt f_q22
  have m_h0 := hF.lt f_h0
  have m_q28 := hF.lt f_q28
  have m_q35 := hF.lt f_q35
  have m_q32 := hF.lt f_q32
  have m_q42 := hF.lt f_q42
  have m_q39 := hF.lt f_q39
  have m_q49 := hF.lt f_q49
  have m_q46 := hF.lt f_q46
  have m_q56 := hF.lt f_q56
  have m_q53 := hF.lt f_q53
  have m_q62 := hF.lt f_q62
  have m_q69 := hF.lt f_q69
  have m_q66 := hF.lt f_q66
  have m_q4 := hF.lt f_q4
  have m_q76 := hF.lt f_q76
  have m_q73 := hF.lt f_q73
  have m_q7 := hF.lt f_q7
  have m_q83 := hF.lt f_q83
  have m_q80 := hF.lt f_q80
  have m_q10 := hF.lt f_q10
  have m_q90 := hF.lt f_q90
  have m_q87 := hF.lt f_q87
  have m_q13 := hF.lt f_q13
  have m_q16 := hF.lt f_q16
  have m_q96 := hF.lt f_q96
  have m_q1 := hF.lt f_q1
  have m_q100 := hF.lt f_q100
  refine fw_callIN (As := []) (rest := [.ref q100, .int 2, .ref q4]) X bs_all nw_all mf_X0_init (c_X0_init l D cs _ _ q100 f_q100) nm_115 wm_116 rfl hF hS rfl ((⟨⟨Nat.le_of_ble_eq_true rfl, Nat.le_of_ble_eq_true rfl⟩, Nat.le_of_ble_eq_true rfl, Nat.le_of_ble_eq_true rfl⟩)) rfl hl.1 rfl (Nat.le_of_ble_eq_true rfl) dX8_init_99 (fun v u102 H locs hp hF hS hz1 hk1 hd1 => ?_)
  obtain ⟨hv1, q103, nq103, hw1⟩ := hp
  subst hv1
  have leq103 := (hd1 q103 (by rw [hw1, va_up_ne _ _ (Ne.symm (gx_ne f_q100 nq103)), va_up_self]; exact fun z => by cases z)).resolve_left (fun z => z nq103)
  have l_q19_q103 : q19 < q103 := Nat.lt_of_lt_of_le m_q19 leq103
  have l_q22_q103 : q22 < q103 := Nat.lt_of_lt_of_le m_q22 leq103
  have l_h0_q103 : h0 < q103 := Nat.lt_of_lt_of_le m_h0 leq103
  have l_q28_q103 : q28 < q103 := Nat.lt_of_lt_of_le m_q28 leq103
  have l_q35_q103 : q35 < q103 := Nat.lt_of_lt_of_le m_q35 leq103
  have l_q32_q103 : q32 < q103 := Nat.lt_of_lt_of_le m_q32 leq103
  have l_q42_q103 : q42 < q103 := Nat.lt_of_lt_of_le m_q42 leq103
  have l_q39_q103 : q39 < q103 := Nat.lt_of_lt_of_le m_q39 leq103
  have l_q49_q103 : q49 < q103 := Nat.lt_of_lt_of_le m_q49 leq103
  have l_q46_q103 : q46 < q103 := Nat.lt_of_lt_of_le m_q46 leq103
  have l_q56_q103 : q56 < q103 := Nat.lt_of_lt_of_le m_q56 leq103
  have l_q53_q103 : q53 < q103 := Nat.lt_of_lt_of_le m_q53 leq103
  have l_q62_q103 : q62 < q103 := Nat.lt_of_lt_of_le m_q62 leq103
  have l_q69_q103 : q69 < q103 := Nat.lt_of_lt_of_le m_q69 leq103
  have l_q66_q103 : q66 < q103 := Nat.lt_of_lt_of_le m_q66 leq103
  have l_q4_q103 : q4 < q103 := Nat.lt_of_lt_of_le m_q4 leq103
  have l_q76_q103 : q76 < q103 := Nat.lt_of_lt_of_le m_q76 leq103
  have l_q73_q103 : q73 < q103 := Nat.lt_of_lt_of_le m_q73 leq103
  have l_q7_q103 : q7 < q103 := Nat.lt_of_lt_of_le m_q7 leq103
  have l_q83_q103 : q83 < q103 := Nat.lt_of_lt_of_le m_q83 leq103
  have l_q80_q103 : q80 < q103 := Nat.lt_of_lt_of_le m_q80 leq103
  have l_q10_q103 : q10 < q103 := Nat.lt_of_lt_of_le m_q10 leq103
  have l_q90_q103 : q90 < q103 := Nat.lt_of_lt_of_le m_q90 leq103
  have l_q87_q103 : q87 < q103 := Nat.lt_of_lt_of_le m_q87 leq103
  have l_q13_q103 : q13 < q103 := Nat.lt_of_lt_of_le m_q13 leq103
  have l_q16_q103 : q16 < q103 := Nat.lt_of_lt_of_le m_q16 leq103
  have l_q96_q103 : q96 < q103 := Nat.lt_of_lt_of_le m_q96 leq103
  have l_q1_q103 : q1 < q103 := Nat.lt_of_lt_of_le m_q1 leq103
  have l_q100_q103 : q100 < q103 := Nat.lt_of_lt_of_le m_q100 leq103
  clear m_q19 m_q22 m_h0 m_q28 m_q35 m_q32 m_q42 m_q39 m_q49 m_q46 m_q56 m_q53 m_q62 m_q69 m_q66 m_q4 m_q76 m_q73 m_q7 m_q83 m_q80 m_q10 m_q90 m_q87 m_q13 m_q16 m_q96 m_q1 m_q100
  rw [hw1] at hF
  clear hw1 hd1 hk1
  obtain ⟨u104, hu104⟩ : ∃ y : fW, y = va_up u101 q103 (some (.inl (cs 0, 12, .inl (fun _ => 0)))) := ⟨_, rfl⟩
  rw [← hu104] at hF
  replace f_q19 : u104 q19 = some (.inl (cs 0, 8, .inl (fun _ => 0))) := by rw [hu104]; exact (va_up_ne _ _ (Nat.ne_of_lt l_q19_q103)).trans f_q19
  replace f_q22 : u104 q22 = some (.inr (4, [.int 0, .int 0, .int 0, .int (-1), .int 0, .long 0])) := by rw [hu104]; exact (va_up_ne _ _ (Nat.ne_of_lt l_q22_q103)).trans f_q22
  replace f_h0 : u104 h0 = some (.inr (8, [.ref q1, .ref q4, .ref q7, .ref q10, .ref q13, .ref q16, .ref q19, .ref q22])) := by rw [hu104]; exact (va_up_ne _ _ (Nat.ne_of_lt l_h0_q103)).trans f_h0
  replace f_q28 : u104 q28 = some (.inr (5, [.int 0, .int 0, .null, .null, .int 0, .int 0])) := by rw [hu104]; exact (va_up_ne _ _ (Nat.ne_of_lt l_q28_q103)).trans f_q28
  replace f_q35 : u104 q35 = some (.inl (cs 0, 12, .inl (fun _ => 0))) := by rw [hu104]; exact (va_up_ne _ _ (Nat.ne_of_lt l_q35_q103)).trans f_q35
  replace f_q32 : u104 q32 = some (.inr (0, [.ref q35, .int (-1)])) := by rw [hu104]; exact (va_up_ne _ _ (Nat.ne_of_lt l_q32_q103)).trans f_q32
  replace f_q42 : u104 q42 = some (.inl (cs 7, 12, .inr (.inr (.inr (.inr (fun _ => none)))))) := by rw [hu104]; exact (va_up_ne _ _ (Nat.ne_of_lt l_q42_q103)).trans f_q42
  replace f_q39 : u104 q39 = some (.inr (3, [.ref q42, .int (-1), .int 0])) := by rw [hu104]; exact (va_up_ne _ _ (Nat.ne_of_lt l_q39_q103)).trans f_q39
  replace f_q49 : u104 q49 = some (.inl (cs 0, 144, .inl (fun _ => 0))) := by rw [hu104]; exact (va_up_ne _ _ (Nat.ne_of_lt l_q49_q103)).trans f_q49
  replace f_q46 : u104 q46 = some (.inr (1, [.ref q49, .int (-1), .int 0])) := by rw [hu104]; exact (va_up_ne _ _ (Nat.ne_of_lt l_q46_q103)).trans f_q46
  replace f_q56 : u104 q56 = some (.inl (cs 8, 16, .inr (.inr (.inr (.inr (fun _ => none)))))) := by rw [hu104]; exact (va_up_ne _ _ (Nat.ne_of_lt l_q56_q103)).trans f_q56
  replace f_q53 : u104 q53 = some (.inr (2, [.ref q56, .int 0])) := by rw [hu104]; exact (va_up_ne _ _ (Nat.ne_of_lt l_q53_q103)).trans f_q53
  replace f_q62 : u104 q62 = some (.inr (5, [.int 0, .int 0, .null, .null, .int 0, .int 0])) := by rw [hu104]; exact (va_up_ne _ _ (Nat.ne_of_lt l_q62_q103)).trans f_q62
  replace f_q69 : u104 q69 = some (.inl (cs 0, 12, .inl (fun _ => 0))) := by rw [hu104]; exact (va_up_ne _ _ (Nat.ne_of_lt l_q69_q103)).trans f_q69
  replace f_q66 : u104 q66 = some (.inr (0, [.ref q69, .int (-1)])) := by rw [hu104]; exact (va_up_ne _ _ (Nat.ne_of_lt l_q66_q103)).trans f_q66
  replace f_q4 : u104 q4 = some (.inl (cs 3, 4, .inr (.inr (.inr (.inr (va_up (va_up (fun _ => none) 0 (some q32)) 1 (some q66))))))) := by rw [hu104]; exact (va_up_ne _ _ (Nat.ne_of_lt l_q4_q103)).trans f_q4
  replace f_q76 : u104 q76 = some (.inl (cs 7, 12, .inr (.inr (.inr (.inr (fun _ => none)))))) := by rw [hu104]; exact (va_up_ne _ _ (Nat.ne_of_lt l_q76_q103)).trans f_q76
  replace f_q73 : u104 q73 = some (.inr (3, [.ref q76, .int (-1), .int 0])) := by rw [hu104]; exact (va_up_ne _ _ (Nat.ne_of_lt l_q73_q103)).trans f_q73
  replace f_q7 : u104 q7 = some (.inl (cs 4, 4, .inr (.inr (.inr (.inr (va_up (va_up (fun _ => none) 0 (some q39)) 1 (some q73))))))) := by rw [hu104]; exact (va_up_ne _ _ (Nat.ne_of_lt l_q7_q103)).trans f_q7
  replace f_q83 : u104 q83 = some (.inl (cs 0, 144, .inl (fun _ => 0))) := by rw [hu104]; exact (va_up_ne _ _ (Nat.ne_of_lt l_q83_q103)).trans f_q83
  replace f_q80 : u104 q80 = some (.inr (1, [.ref q83, .int (-1), .int 0])) := by rw [hu104]; exact (va_up_ne _ _ (Nat.ne_of_lt l_q80_q103)).trans f_q80
  replace f_q10 : u104 q10 = some (.inl (cs 5, 4, .inr (.inr (.inr (.inr (va_up (va_up (fun _ => none) 0 (some q46)) 1 (some q80))))))) := by rw [hu104]; exact (va_up_ne _ _ (Nat.ne_of_lt l_q10_q103)).trans f_q10
  replace f_q90 : u104 q90 = some (.inl (cs 8, 16, .inr (.inr (.inr (.inr (fun _ => none)))))) := by rw [hu104]; exact (va_up_ne _ _ (Nat.ne_of_lt l_q90_q103)).trans f_q90
  replace f_q87 : u104 q87 = some (.inr (2, [.ref q90, .int 0])) := by rw [hu104]; exact (va_up_ne _ _ (Nat.ne_of_lt l_q87_q103)).trans f_q87
  replace f_q13 : u104 q13 = some (.inl (cs 6, 4, .inr (.inr (.inr (.inr (va_up (va_up (fun _ => none) 0 (some q53)) 1 (some q87))))))) := by rw [hu104]; exact (va_up_ne _ _ (Nat.ne_of_lt l_q13_q103)).trans f_q13
  replace f_q16 : u104 q16 = some (.inl (cs 0, 4, .inl (upd (upd (fun _ => 0) 0 1) 1 1))) := by rw [hu104]; exact (va_up_ne _ _ (Nat.ne_of_lt l_q16_q103)).trans f_q16
  replace f_q96 : u104 q96 = some (.inr (5, [.int 0, .int 0, .null, .null, .int 0, .int 0])) := by rw [hu104]; exact (va_up_ne _ _ (Nat.ne_of_lt l_q96_q103)).trans f_q96
  replace f_q1 : u104 q1 = some (.inl (cs 2, 4, .inr (.inr (.inr (.inr (va_up (va_up (va_up (fun _ => none) 0 (some q28)) 1 (some q62)) 2 (some q96))))))) := by rw [hu104]; exact (va_up_ne _ _ (Nat.ne_of_lt l_q1_q103)).trans f_q1
  replace f_q100 : u104 q100 = some (.inr (0, [.null, .int 0])) := by rw [hu104]; exact (va_up_ne _ _ (Nat.ne_of_lt l_q100_q103)).trans f_q100
  have f_q103 : u104 q103 = some (.inl (cs 0, 12, .inl (fun _ => 0))) := by rw [hu104]; exact va_up_self _ _ _
  obtain ⟨u105, hu105⟩ : ∃ y : fW, y = va_up u104 q100 (some (.inr (0, [.ref q103, .int (-1)]))) := ⟨_, rfl⟩
  rw [← hu105] at hF
  replace f_q19 : u105 q19 = some (.inl (cs 0, 8, .inl (fun _ => 0))) := by rw [hu105]; exact (va_up_ne _ _ (Nat.ne_of_lt l_q19_q100)).trans f_q19
  replace f_q22 : u105 q22 = some (.inr (4, [.int 0, .int 0, .int 0, .int (-1), .int 0, .long 0])) := by rw [hu105]; exact (va_up_ne _ _ (Nat.ne_of_lt l_q22_q100)).trans f_q22
  replace f_h0 : u105 h0 = some (.inr (8, [.ref q1, .ref q4, .ref q7, .ref q10, .ref q13, .ref q16, .ref q19, .ref q22])) := by rw [hu105]; exact (va_up_ne _ _ (Nat.ne_of_lt l_h0_q100)).trans f_h0
  replace f_q28 : u105 q28 = some (.inr (5, [.int 0, .int 0, .null, .null, .int 0, .int 0])) := by rw [hu105]; exact (va_up_ne _ _ (Nat.ne_of_lt l_q28_q100)).trans f_q28
  replace f_q35 : u105 q35 = some (.inl (cs 0, 12, .inl (fun _ => 0))) := by rw [hu105]; exact (va_up_ne _ _ (Nat.ne_of_lt l_q35_q100)).trans f_q35
  replace f_q32 : u105 q32 = some (.inr (0, [.ref q35, .int (-1)])) := by rw [hu105]; exact (va_up_ne _ _ (Nat.ne_of_lt l_q32_q100)).trans f_q32
  replace f_q42 : u105 q42 = some (.inl (cs 7, 12, .inr (.inr (.inr (.inr (fun _ => none)))))) := by rw [hu105]; exact (va_up_ne _ _ (Nat.ne_of_lt l_q42_q100)).trans f_q42
  replace f_q39 : u105 q39 = some (.inr (3, [.ref q42, .int (-1), .int 0])) := by rw [hu105]; exact (va_up_ne _ _ (Nat.ne_of_lt l_q39_q100)).trans f_q39
  replace f_q49 : u105 q49 = some (.inl (cs 0, 144, .inl (fun _ => 0))) := by rw [hu105]; exact (va_up_ne _ _ (Nat.ne_of_lt l_q49_q100)).trans f_q49
  replace f_q46 : u105 q46 = some (.inr (1, [.ref q49, .int (-1), .int 0])) := by rw [hu105]; exact (va_up_ne _ _ (Nat.ne_of_lt l_q46_q100)).trans f_q46
  replace f_q56 : u105 q56 = some (.inl (cs 8, 16, .inr (.inr (.inr (.inr (fun _ => none)))))) := by rw [hu105]; exact (va_up_ne _ _ (Nat.ne_of_lt l_q56_q100)).trans f_q56
  replace f_q53 : u105 q53 = some (.inr (2, [.ref q56, .int 0])) := by rw [hu105]; exact (va_up_ne _ _ (Nat.ne_of_lt l_q53_q100)).trans f_q53
  replace f_q62 : u105 q62 = some (.inr (5, [.int 0, .int 0, .null, .null, .int 0, .int 0])) := by rw [hu105]; exact (va_up_ne _ _ (Nat.ne_of_lt l_q62_q100)).trans f_q62
  replace f_q69 : u105 q69 = some (.inl (cs 0, 12, .inl (fun _ => 0))) := by rw [hu105]; exact (va_up_ne _ _ (Nat.ne_of_lt l_q69_q100)).trans f_q69
  replace f_q66 : u105 q66 = some (.inr (0, [.ref q69, .int (-1)])) := by rw [hu105]; exact (va_up_ne _ _ (Nat.ne_of_lt l_q66_q100)).trans f_q66
  replace f_q4 : u105 q4 = some (.inl (cs 3, 4, .inr (.inr (.inr (.inr (va_up (va_up (fun _ => none) 0 (some q32)) 1 (some q66))))))) := by rw [hu105]; exact (va_up_ne _ _ (Nat.ne_of_lt l_q4_q100)).trans f_q4
  replace f_q76 : u105 q76 = some (.inl (cs 7, 12, .inr (.inr (.inr (.inr (fun _ => none)))))) := by rw [hu105]; exact (va_up_ne _ _ (Nat.ne_of_lt l_q76_q100)).trans f_q76
  replace f_q73 : u105 q73 = some (.inr (3, [.ref q76, .int (-1), .int 0])) := by rw [hu105]; exact (va_up_ne _ _ (Nat.ne_of_lt l_q73_q100)).trans f_q73
  replace f_q7 : u105 q7 = some (.inl (cs 4, 4, .inr (.inr (.inr (.inr (va_up (va_up (fun _ => none) 0 (some q39)) 1 (some q73))))))) := by rw [hu105]; exact (va_up_ne _ _ (Nat.ne_of_lt l_q7_q100)).trans f_q7
  replace f_q83 : u105 q83 = some (.inl (cs 0, 144, .inl (fun _ => 0))) := by rw [hu105]; exact (va_up_ne _ _ (Nat.ne_of_lt l_q83_q100)).trans f_q83
  replace f_q80 : u105 q80 = some (.inr (1, [.ref q83, .int (-1), .int 0])) := by rw [hu105]; exact (va_up_ne _ _ (Nat.ne_of_lt l_q80_q100)).trans f_q80
  replace f_q10 : u105 q10 = some (.inl (cs 5, 4, .inr (.inr (.inr (.inr (va_up (va_up (fun _ => none) 0 (some q46)) 1 (some q80))))))) := by rw [hu105]; exact (va_up_ne _ _ (Nat.ne_of_lt l_q10_q100)).trans f_q10
  replace f_q90 : u105 q90 = some (.inl (cs 8, 16, .inr (.inr (.inr (.inr (fun _ => none)))))) := by rw [hu105]; exact (va_up_ne _ _ (Nat.ne_of_lt l_q90_q100)).trans f_q90
  replace f_q87 : u105 q87 = some (.inr (2, [.ref q90, .int 0])) := by rw [hu105]; exact (va_up_ne _ _ (Nat.ne_of_lt l_q87_q100)).trans f_q87
  replace f_q13 : u105 q13 = some (.inl (cs 6, 4, .inr (.inr (.inr (.inr (va_up (va_up (fun _ => none) 0 (some q53)) 1 (some q87))))))) := by rw [hu105]; exact (va_up_ne _ _ (Nat.ne_of_lt l_q13_q100)).trans f_q13
  replace f_q16 : u105 q16 = some (.inl (cs 0, 4, .inl (upd (upd (fun _ => 0) 0 1) 1 1))) := by rw [hu105]; exact (va_up_ne _ _ (Nat.ne_of_lt l_q16_q100)).trans f_q16
  replace f_q96 : u105 q96 = some (.inr (5, [.int 0, .int 0, .null, .null, .int 0, .int 0])) := by rw [hu105]; exact (va_up_ne _ _ (Nat.ne_of_lt l_q96_q100)).trans f_q96
  replace f_q1 : u105 q1 = some (.inl (cs 2, 4, .inr (.inr (.inr (.inr (va_up (va_up (va_up (fun _ => none) 0 (some q28)) 1 (some q62)) 2 (some q96))))))) := by rw [hu105]; exact (va_up_ne _ _ (Nat.ne_of_lt l_q1_q100)).trans f_q1
  replace f_q103 : u105 q103 = some (.inl (cs 0, 12, .inl (fun _ => 0))) := by rw [hu105]; exact (va_up_ne _ _ (Nat.ne_of_gt l_q100_q103)).trans f_q103
  replace f_q100 : u105 q100 = some (.inr (0, [.ref q103, .int (-1)])) := by rw [hu105]; exact va_up_self _ _ _
  refine W.eq (g2 := F0 m 102 ls [.ref q100, .int 2, .ref q4]) rfl ?_
  refine fw_astq X hF hS f_q4 3 rfl f_q100 rfl (vp_in_iff.mpr (by decide)) dX8_init_102 (fun H locs hF hS => ?_)
  have hF : fw_P D cls10 A (va_up u105 q4 (some (.inl (cs 3, 4, .inr (.inr (.inr (.inr (va_up (va_up (va_up (fun _ => none) 0 (some q32)) 1 (some q66)) 2 (some q100))))))))) H := hF
  obtain ⟨u106, hu106⟩ : ∃ y : fW, y = va_up u105 q4 (some (.inl (cs 3, 4, .inr (.inr (.inr (.inr (va_up (va_up (va_up (fun _ => none) 0 (some q32)) 1 (some q66)) 2 (some q100)))))))) := ⟨_, rfl⟩
  rw [← hu106] at hF
  replace f_q19 : u106 q19 = some (.inl (cs 0, 8, .inl (fun _ => 0))) := by rw [hu106]; exact (va_up_ne _ _ (Nat.ne_of_gt l_q4_q19)).trans f_q19
  replace f_q22 : u106 q22 = some (.inr (4, [.int 0, .int 0, .int 0, .int (-1), .int 0, .long 0])) := by rw [hu106]; exact (va_up_ne _ _ (Nat.ne_of_gt l_q4_q22)).trans f_q22
  replace f_h0 : u106 h0 = some (.inr (8, [.ref q1, .ref q4, .ref q7, .ref q10, .ref q13, .ref q16, .ref q19, .ref q22])) := by rw [hu106]; exact (va_up_ne _ _ (Nat.ne_of_lt l_h0_q4)).trans f_h0
  replace f_q28 : u106 q28 = some (.inr (5, [.int 0, .int 0, .null, .null, .int 0, .int 0])) := by rw [hu106]; exact (va_up_ne _ _ (Nat.ne_of_gt l_q4_q28)).trans f_q28
  replace f_q35 : u106 q35 = some (.inl (cs 0, 12, .inl (fun _ => 0))) := by rw [hu106]; exact (va_up_ne _ _ (Nat.ne_of_gt l_q4_q35)).trans f_q35
  replace f_q32 : u106 q32 = some (.inr (0, [.ref q35, .int (-1)])) := by rw [hu106]; exact (va_up_ne _ _ (Nat.ne_of_gt l_q4_q32)).trans f_q32
  replace f_q42 : u106 q42 = some (.inl (cs 7, 12, .inr (.inr (.inr (.inr (fun _ => none)))))) := by rw [hu106]; exact (va_up_ne _ _ (Nat.ne_of_gt l_q4_q42)).trans f_q42
  replace f_q39 : u106 q39 = some (.inr (3, [.ref q42, .int (-1), .int 0])) := by rw [hu106]; exact (va_up_ne _ _ (Nat.ne_of_gt l_q4_q39)).trans f_q39
  replace f_q49 : u106 q49 = some (.inl (cs 0, 144, .inl (fun _ => 0))) := by rw [hu106]; exact (va_up_ne _ _ (Nat.ne_of_gt l_q4_q49)).trans f_q49
  replace f_q46 : u106 q46 = some (.inr (1, [.ref q49, .int (-1), .int 0])) := by rw [hu106]; exact (va_up_ne _ _ (Nat.ne_of_gt l_q4_q46)).trans f_q46
  replace f_q56 : u106 q56 = some (.inl (cs 8, 16, .inr (.inr (.inr (.inr (fun _ => none)))))) := by rw [hu106]; exact (va_up_ne _ _ (Nat.ne_of_gt l_q4_q56)).trans f_q56
  replace f_q53 : u106 q53 = some (.inr (2, [.ref q56, .int 0])) := by rw [hu106]; exact (va_up_ne _ _ (Nat.ne_of_gt l_q4_q53)).trans f_q53
  replace f_q62 : u106 q62 = some (.inr (5, [.int 0, .int 0, .null, .null, .int 0, .int 0])) := by rw [hu106]; exact (va_up_ne _ _ (Nat.ne_of_gt l_q4_q62)).trans f_q62
  replace f_q69 : u106 q69 = some (.inl (cs 0, 12, .inl (fun _ => 0))) := by rw [hu106]; exact (va_up_ne _ _ (Nat.ne_of_gt l_q4_q69)).trans f_q69
  replace f_q66 : u106 q66 = some (.inr (0, [.ref q69, .int (-1)])) := by rw [hu106]; exact (va_up_ne _ _ (Nat.ne_of_gt l_q4_q66)).trans f_q66
  replace f_q76 : u106 q76 = some (.inl (cs 7, 12, .inr (.inr (.inr (.inr (fun _ => none)))))) := by rw [hu106]; exact (va_up_ne _ _ (Nat.ne_of_gt l_q4_q76)).trans f_q76
  replace f_q73 : u106 q73 = some (.inr (3, [.ref q76, .int (-1), .int 0])) := by rw [hu106]; exact (va_up_ne _ _ (Nat.ne_of_gt l_q4_q73)).trans f_q73
  replace f_q7 : u106 q7 = some (.inl (cs 4, 4, .inr (.inr (.inr (.inr (va_up (va_up (fun _ => none) 0 (some q39)) 1 (some q73))))))) := by rw [hu106]; exact (va_up_ne _ _ (Nat.ne_of_gt l_q4_q7)).trans f_q7
  replace f_q83 : u106 q83 = some (.inl (cs 0, 144, .inl (fun _ => 0))) := by rw [hu106]; exact (va_up_ne _ _ (Nat.ne_of_gt l_q4_q83)).trans f_q83
  replace f_q80 : u106 q80 = some (.inr (1, [.ref q83, .int (-1), .int 0])) := by rw [hu106]; exact (va_up_ne _ _ (Nat.ne_of_gt l_q4_q80)).trans f_q80
  replace f_q10 : u106 q10 = some (.inl (cs 5, 4, .inr (.inr (.inr (.inr (va_up (va_up (fun _ => none) 0 (some q46)) 1 (some q80))))))) := by rw [hu106]; exact (va_up_ne _ _ (Nat.ne_of_gt l_q4_q10)).trans f_q10
  replace f_q90 : u106 q90 = some (.inl (cs 8, 16, .inr (.inr (.inr (.inr (fun _ => none)))))) := by rw [hu106]; exact (va_up_ne _ _ (Nat.ne_of_gt l_q4_q90)).trans f_q90
  replace f_q87 : u106 q87 = some (.inr (2, [.ref q90, .int 0])) := by rw [hu106]; exact (va_up_ne _ _ (Nat.ne_of_gt l_q4_q87)).trans f_q87
  replace f_q13 : u106 q13 = some (.inl (cs 6, 4, .inr (.inr (.inr (.inr (va_up (va_up (fun _ => none) 0 (some q53)) 1 (some q87))))))) := by rw [hu106]; exact (va_up_ne _ _ (Nat.ne_of_gt l_q4_q13)).trans f_q13
  replace f_q16 : u106 q16 = some (.inl (cs 0, 4, .inl (upd (upd (fun _ => 0) 0 1) 1 1))) := by rw [hu106]; exact (va_up_ne _ _ (Nat.ne_of_gt l_q4_q16)).trans f_q16
  replace f_q96 : u106 q96 = some (.inr (5, [.int 0, .int 0, .null, .null, .int 0, .int 0])) := by rw [hu106]; exact (va_up_ne _ _ (Nat.ne_of_gt l_q4_q96)).trans f_q96
  replace f_q1 : u106 q1 = some (.inl (cs 2, 4, .inr (.inr (.inr (.inr (va_up (va_up (va_up (fun _ => none) 0 (some q28)) 1 (some q62)) 2 (some q96))))))) := by rw [hu106]; exact (va_up_ne _ _ (Nat.ne_of_lt l_q1_q4)).trans f_q1
  replace f_q103 : u106 q103 = some (.inl (cs 0, 12, .inl (fun _ => 0))) := by rw [hu106]; exact (va_up_ne _ _ (Nat.ne_of_gt l_q4_q103)).trans f_q103
  replace f_q100 : u106 q100 = some (.inr (0, [.ref q103, .int (-1)])) := by rw [hu106]; exact (va_up_ne _ _ (Nat.ne_of_gt l_q4_q100)).trans f_q100
  replace f_q4 : u106 q4 = some (.inl (cs 3, 4, .inr (.inr (.inr (.inr (va_up (va_up (va_up (fun _ => none) 0 (some q32)) 1 (some q66)) 2 (some q100))))))) := by rw [hu106]; exact va_up_self _ _ _
  refine lv_aload_n hx hb dX8_init_103 rfl (lv_at hl 1 rfl) ?_
  refine fw_get X gC_ok hF f_h0 rfl 2 (by decide) wm_178 rfl dX8_init_104 ?_
  refine lv_iload_n hx hb dX8_init_107 rfl (lv_at hl 0 rfl) ?_
  have m_q19 := hF.lt f_q19
  have m_q22 := hF.lt f_q22
  have m_h0 := hF.lt f_h0
  have m_q28 := hF.lt f_q28
  have m_q35 := hF.lt f_q35
  have m_q32 := hF.lt f_q32
  have m_q42 := hF.lt f_q42
  have m_q39 := hF.lt f_q39
  have m_q49 := hF.lt f_q49
  have m_q46 := hF.lt f_q46
  have m_q56 := hF.lt f_q56
  have m_q53 := hF.lt f_q53
  have m_q62 := hF.lt f_q62
  have m_q69 := hF.lt f_q69
  have m_q66 := hF.lt f_q66
  have m_q76 := hF.lt f_q76
  have m_q73 := hF.lt f_q73
  have m_q7 := hF.lt f_q7
  have m_q83 := hF.lt f_q83
  have m_q80 := hF.lt f_q80
  have m_q10 := hF.lt f_q10
  have m_q90 := hF.lt f_q90
  have m_q87 := hF.lt f_q87
  have m_q13 := hF.lt f_q13
  have m_q16 := hF.lt f_q16
  have m_q96 := hF.lt f_q96
  have m_q1 := hF.lt f_q1
  have m_q103 := hF.lt f_q103
  have m_q100 := hF.lt f_q100
  have m_q4 := hF.lt f_q4
  refine fw_new (ci := 3) (fs := [.null, .int 0, .int 0]) X gC_ok hF hS rfl tyX3 tyX3_ok (by decide +kernel) wm_48 wm_127 wm_29 (Nat.le_of_ble_eq_true rfl) (Nat.le_of_ble_eq_true rfl) dX8_init_108 (fun q107 H nq107 zq107 zzq107 hF hS => ?_)
  have l_q19_q107 : q19 < q107 := Nat.lt_of_lt_of_le m_q19 (Nat.le_of_eq zq107.symm)
  have l_q22_q107 : q22 < q107 := Nat.lt_of_lt_of_le m_q22 (Nat.le_of_eq zq107.symm)
  have l_h0_q107 : h0 < q107 := Nat.lt_of_lt_of_le m_h0 (Nat.le_of_eq zq107.symm)
  have l_q28_q107 : q28 < q107 := Nat.lt_of_lt_of_le m_q28 (Nat.le_of_eq zq107.symm)
  have l_q35_q107 : q35 < q107 := Nat.lt_of_lt_of_le m_q35 (Nat.le_of_eq zq107.symm)
  have l_q32_q107 : q32 < q107 := Nat.lt_of_lt_of_le m_q32 (Nat.le_of_eq zq107.symm)
  have l_q42_q107 : q42 < q107 := Nat.lt_of_lt_of_le m_q42 (Nat.le_of_eq zq107.symm)
  have l_q39_q107 : q39 < q107 := Nat.lt_of_lt_of_le m_q39 (Nat.le_of_eq zq107.symm)
  have l_q49_q107 : q49 < q107 := Nat.lt_of_lt_of_le m_q49 (Nat.le_of_eq zq107.symm)
  have l_q46_q107 : q46 < q107 := Nat.lt_of_lt_of_le m_q46 (Nat.le_of_eq zq107.symm)
  have l_q56_q107 : q56 < q107 := Nat.lt_of_lt_of_le m_q56 (Nat.le_of_eq zq107.symm)
  have l_q53_q107 : q53 < q107 := Nat.lt_of_lt_of_le m_q53 (Nat.le_of_eq zq107.symm)
  have l_q62_q107 : q62 < q107 := Nat.lt_of_lt_of_le m_q62 (Nat.le_of_eq zq107.symm)
  have l_q69_q107 : q69 < q107 := Nat.lt_of_lt_of_le m_q69 (Nat.le_of_eq zq107.symm)
  have l_q66_q107 : q66 < q107 := Nat.lt_of_lt_of_le m_q66 (Nat.le_of_eq zq107.symm)
  have l_q76_q107 : q76 < q107 := Nat.lt_of_lt_of_le m_q76 (Nat.le_of_eq zq107.symm)
  have l_q73_q107 : q73 < q107 := Nat.lt_of_lt_of_le m_q73 (Nat.le_of_eq zq107.symm)
  have l_q7_q107 : q7 < q107 := Nat.lt_of_lt_of_le m_q7 (Nat.le_of_eq zq107.symm)
  have l_q83_q107 : q83 < q107 := Nat.lt_of_lt_of_le m_q83 (Nat.le_of_eq zq107.symm)
  have l_q80_q107 : q80 < q107 := Nat.lt_of_lt_of_le m_q80 (Nat.le_of_eq zq107.symm)
  have l_q10_q107 : q10 < q107 := Nat.lt_of_lt_of_le m_q10 (Nat.le_of_eq zq107.symm)
  have l_q90_q107 : q90 < q107 := Nat.lt_of_lt_of_le m_q90 (Nat.le_of_eq zq107.symm)
  have l_q87_q107 : q87 < q107 := Nat.lt_of_lt_of_le m_q87 (Nat.le_of_eq zq107.symm)
  have l_q13_q107 : q13 < q107 := Nat.lt_of_lt_of_le m_q13 (Nat.le_of_eq zq107.symm)
  have l_q16_q107 : q16 < q107 := Nat.lt_of_lt_of_le m_q16 (Nat.le_of_eq zq107.symm)
  have l_q96_q107 : q96 < q107 := Nat.lt_of_lt_of_le m_q96 (Nat.le_of_eq zq107.symm)
  have l_q1_q107 : q1 < q107 := Nat.lt_of_lt_of_le m_q1 (Nat.le_of_eq zq107.symm)
  have l_q103_q107 : q103 < q107 := Nat.lt_of_lt_of_le m_q103 (Nat.le_of_eq zq107.symm)
  have l_q100_q107 : q100 < q107 := Nat.lt_of_lt_of_le m_q100 (Nat.le_of_eq zq107.symm)
  have l_q4_q107 : q4 < q107 := Nat.lt_of_lt_of_le m_q4 (Nat.le_of_eq zq107.symm)
  clear m_q19 m_q22 m_h0 m_q28 m_q35 m_q32 m_q42 m_q39 m_q49 m_q46 m_q56 m_q53 m_q62 m_q69 m_q66 m_q76 m_q73 m_q7 m_q83 m_q80 m_q10 m_q90 m_q87 m_q13 m_q16 m_q96 m_q1 m_q103 m_q100 m_q4
  have hF : fw_P D cls10 A (va_up u106 q107 (some (.inr (3, [.null, .int 0, .int 0])))) H := hF
  obtain ⟨u108, hu108⟩ : ∃ y : fW, y = va_up u106 q107 (some (.inr (3, [.null, .int 0, .int 0]))) := ⟨_, rfl⟩
  rw [← hu108] at hF
  replace f_q19 : u108 q19 = some (.inl (cs 0, 8, .inl (fun _ => 0))) := by rw [hu108]; exact (va_up_ne _ _ (Nat.ne_of_lt l_q19_q107)).trans f_q19
  replace f_q22 : u108 q22 = some (.inr (4, [.int 0, .int 0, .int 0, .int (-1), .int 0, .long 0])) := by rw [hu108]; exact (va_up_ne _ _ (Nat.ne_of_lt l_q22_q107)).trans f_q22
  replace f_h0 : u108 h0 = some (.inr (8, [.ref q1, .ref q4, .ref q7, .ref q10, .ref q13, .ref q16, .ref q19, .ref q22])) := by rw [hu108]; exact (va_up_ne _ _ (Nat.ne_of_lt l_h0_q107)).trans f_h0
  replace f_q28 : u108 q28 = some (.inr (5, [.int 0, .int 0, .null, .null, .int 0, .int 0])) := by rw [hu108]; exact (va_up_ne _ _ (Nat.ne_of_lt l_q28_q107)).trans f_q28
  replace f_q35 : u108 q35 = some (.inl (cs 0, 12, .inl (fun _ => 0))) := by rw [hu108]; exact (va_up_ne _ _ (Nat.ne_of_lt l_q35_q107)).trans f_q35
  replace f_q32 : u108 q32 = some (.inr (0, [.ref q35, .int (-1)])) := by rw [hu108]; exact (va_up_ne _ _ (Nat.ne_of_lt l_q32_q107)).trans f_q32
  replace f_q42 : u108 q42 = some (.inl (cs 7, 12, .inr (.inr (.inr (.inr (fun _ => none)))))) := by rw [hu108]; exact (va_up_ne _ _ (Nat.ne_of_lt l_q42_q107)).trans f_q42
  replace f_q39 : u108 q39 = some (.inr (3, [.ref q42, .int (-1), .int 0])) := by rw [hu108]; exact (va_up_ne _ _ (Nat.ne_of_lt l_q39_q107)).trans f_q39
  replace f_q49 : u108 q49 = some (.inl (cs 0, 144, .inl (fun _ => 0))) := by rw [hu108]; exact (va_up_ne _ _ (Nat.ne_of_lt l_q49_q107)).trans f_q49
  replace f_q46 : u108 q46 = some (.inr (1, [.ref q49, .int (-1), .int 0])) := by rw [hu108]; exact (va_up_ne _ _ (Nat.ne_of_lt l_q46_q107)).trans f_q46
  replace f_q56 : u108 q56 = some (.inl (cs 8, 16, .inr (.inr (.inr (.inr (fun _ => none)))))) := by rw [hu108]; exact (va_up_ne _ _ (Nat.ne_of_lt l_q56_q107)).trans f_q56
  replace f_q53 : u108 q53 = some (.inr (2, [.ref q56, .int 0])) := by rw [hu108]; exact (va_up_ne _ _ (Nat.ne_of_lt l_q53_q107)).trans f_q53
  replace f_q62 : u108 q62 = some (.inr (5, [.int 0, .int 0, .null, .null, .int 0, .int 0])) := by rw [hu108]; exact (va_up_ne _ _ (Nat.ne_of_lt l_q62_q107)).trans f_q62
  replace f_q69 : u108 q69 = some (.inl (cs 0, 12, .inl (fun _ => 0))) := by rw [hu108]; exact (va_up_ne _ _ (Nat.ne_of_lt l_q69_q107)).trans f_q69
  replace f_q66 : u108 q66 = some (.inr (0, [.ref q69, .int (-1)])) := by rw [hu108]; exact (va_up_ne _ _ (Nat.ne_of_lt l_q66_q107)).trans f_q66
  replace f_q76 : u108 q76 = some (.inl (cs 7, 12, .inr (.inr (.inr (.inr (fun _ => none)))))) := by rw [hu108]; exact (va_up_ne _ _ (Nat.ne_of_lt l_q76_q107)).trans f_q76
  replace f_q73 : u108 q73 = some (.inr (3, [.ref q76, .int (-1), .int 0])) := by rw [hu108]; exact (va_up_ne _ _ (Nat.ne_of_lt l_q73_q107)).trans f_q73
  replace f_q7 : u108 q7 = some (.inl (cs 4, 4, .inr (.inr (.inr (.inr (va_up (va_up (fun _ => none) 0 (some q39)) 1 (some q73))))))) := by rw [hu108]; exact (va_up_ne _ _ (Nat.ne_of_lt l_q7_q107)).trans f_q7
  replace f_q83 : u108 q83 = some (.inl (cs 0, 144, .inl (fun _ => 0))) := by rw [hu108]; exact (va_up_ne _ _ (Nat.ne_of_lt l_q83_q107)).trans f_q83
  replace f_q80 : u108 q80 = some (.inr (1, [.ref q83, .int (-1), .int 0])) := by rw [hu108]; exact (va_up_ne _ _ (Nat.ne_of_lt l_q80_q107)).trans f_q80
  replace f_q10 : u108 q10 = some (.inl (cs 5, 4, .inr (.inr (.inr (.inr (va_up (va_up (fun _ => none) 0 (some q46)) 1 (some q80))))))) := by rw [hu108]; exact (va_up_ne _ _ (Nat.ne_of_lt l_q10_q107)).trans f_q10
  replace f_q90 : u108 q90 = some (.inl (cs 8, 16, .inr (.inr (.inr (.inr (fun _ => none)))))) := by rw [hu108]; exact (va_up_ne _ _ (Nat.ne_of_lt l_q90_q107)).trans f_q90
  replace f_q87 : u108 q87 = some (.inr (2, [.ref q90, .int 0])) := by rw [hu108]; exact (va_up_ne _ _ (Nat.ne_of_lt l_q87_q107)).trans f_q87
  replace f_q13 : u108 q13 = some (.inl (cs 6, 4, .inr (.inr (.inr (.inr (va_up (va_up (fun _ => none) 0 (some q53)) 1 (some q87))))))) := by rw [hu108]; exact (va_up_ne _ _ (Nat.ne_of_lt l_q13_q107)).trans f_q13
  replace f_q16 : u108 q16 = some (.inl (cs 0, 4, .inl (upd (upd (fun _ => 0) 0 1) 1 1))) := by rw [hu108]; exact (va_up_ne _ _ (Nat.ne_of_lt l_q16_q107)).trans f_q16
  replace f_q96 : u108 q96 = some (.inr (5, [.int 0, .int 0, .null, .null, .int 0, .int 0])) := by rw [hu108]; exact (va_up_ne _ _ (Nat.ne_of_lt l_q96_q107)).trans f_q96
  replace f_q1 : u108 q1 = some (.inl (cs 2, 4, .inr (.inr (.inr (.inr (va_up (va_up (va_up (fun _ => none) 0 (some q28)) 1 (some q62)) 2 (some q96))))))) := by rw [hu108]; exact (va_up_ne _ _ (Nat.ne_of_lt l_q1_q107)).trans f_q1
  replace f_q103 : u108 q103 = some (.inl (cs 0, 12, .inl (fun _ => 0))) := by rw [hu108]; exact (va_up_ne _ _ (Nat.ne_of_lt l_q103_q107)).trans f_q103
  replace f_q100 : u108 q100 = some (.inr (0, [.ref q103, .int (-1)])) := by rw [hu108]; exact (va_up_ne _ _ (Nat.ne_of_lt l_q100_q107)).trans f_q100
  replace f_q4 : u108 q4 = some (.inl (cs 3, 4, .inr (.inr (.inr (.inr (va_up (va_up (va_up (fun _ => none) 0 (some q32)) 1 (some q66)) 2 (some q100))))))) := by rw [hu108]; exact (va_up_ne _ _ (Nat.ne_of_lt l_q4_q107)).trans f_q4
  have f_q107 : u108 q107 = some (.inr (3, [.null, .int 0, .int 0])) := by rw [hu108]; exact va_up_self _ _ _
  refine lv_dup hx hb dX8_init_111 rfl ?_
  have m_q19 := hF.lt f_q19
  have m_q22 := hF.lt f_q22
  have m_h0 := hF.lt f_h0
  have m_q28 := hF.lt f_q28
  have m_q35 := hF.lt f_q35
  have m_q32 := hF.lt f_q32
  have m_q42 := hF.lt f_q42
  have m_q39 := hF.lt f_q39
  have m_q49 := hF.lt f_q49
  have m_q46 := hF.lt f_q46
  have m_q56 := hF.lt f_q56
  have m_q53 := hF.lt f_q53
  have m_q62 := hF.lt f_q62
  have m_q69 := hF.lt f_q69
  have m_q66 := hF.lt f_q66
  have m_q76 := hF.lt f_q76
  have m_q73 := hF.lt f_q73
  have m_q7 := hF.lt f_q7
  have m_q83 := hF.lt f_q83
  have m_q80 := hF.lt f_q80
  have m_q10 := hF.lt f_q10
  have m_q90 := hF.lt f_q90
  have m_q87 := hF.lt f_q87
  have m_q13 := hF.lt f_q13
  have m_q16 := hF.lt f_q16
  have m_q96 := hF.lt f_q96
  have m_q1 := hF.lt f_q1
  have m_q103 := hF.lt f_q103
  have m_q100 := hF.lt f_q100
  have m_q4 := hF.lt f_q4
  have m_q107 := hF.lt f_q107
  refine fw_callIN (As := []) (rest := [.ref q107, .int 2, .ref q7]) X bs_all nw_all mf_X3_init (c_X3_init l D cs _ _ q107 f_q107) nm_128 wm_129 rfl hF hS rfl ((⟨⟨Nat.le_of_ble_eq_true rfl, Nat.le_of_ble_eq_true rfl⟩, Nat.le_of_ble_eq_true rfl, Nat.le_of_ble_eq_true rfl⟩)) rfl hl.1 rfl (Nat.le_of_ble_eq_true rfl) dX8_init_112 (fun v u109 H locs hp hF hS hz1 hk1 hd1 => ?_)
  obtain ⟨hv1, q110, nq110, hw1⟩ := hp
  subst hv1
  have leq110 := (hd1 q110 (by rw [hw1, va_up_ne _ _ (Ne.symm (gx_ne f_q107 nq110)), va_up_self]; exact fun z => by cases z)).resolve_left (fun z => z nq110)
  have l_q19_q110 : q19 < q110 := Nat.lt_of_lt_of_le m_q19 leq110
  have l_q22_q110 : q22 < q110 := Nat.lt_of_lt_of_le m_q22 leq110
  have l_h0_q110 : h0 < q110 := Nat.lt_of_lt_of_le m_h0 leq110
  have l_q28_q110 : q28 < q110 := Nat.lt_of_lt_of_le m_q28 leq110
  have l_q35_q110 : q35 < q110 := Nat.lt_of_lt_of_le m_q35 leq110
  have l_q32_q110 : q32 < q110 := Nat.lt_of_lt_of_le m_q32 leq110
  have l_q42_q110 : q42 < q110 := Nat.lt_of_lt_of_le m_q42 leq110
  have l_q39_q110 : q39 < q110 := Nat.lt_of_lt_of_le m_q39 leq110
  have l_q49_q110 : q49 < q110 := Nat.lt_of_lt_of_le m_q49 leq110
  have l_q46_q110 : q46 < q110 := Nat.lt_of_lt_of_le m_q46 leq110
  have l_q56_q110 : q56 < q110 := Nat.lt_of_lt_of_le m_q56 leq110
  have l_q53_q110 : q53 < q110 := Nat.lt_of_lt_of_le m_q53 leq110
  have l_q62_q110 : q62 < q110 := Nat.lt_of_lt_of_le m_q62 leq110
  have l_q69_q110 : q69 < q110 := Nat.lt_of_lt_of_le m_q69 leq110
  have l_q66_q110 : q66 < q110 := Nat.lt_of_lt_of_le m_q66 leq110
  have l_q76_q110 : q76 < q110 := Nat.lt_of_lt_of_le m_q76 leq110
  have l_q73_q110 : q73 < q110 := Nat.lt_of_lt_of_le m_q73 leq110
  have l_q7_q110 : q7 < q110 := Nat.lt_of_lt_of_le m_q7 leq110
  have l_q83_q110 : q83 < q110 := Nat.lt_of_lt_of_le m_q83 leq110
  have l_q80_q110 : q80 < q110 := Nat.lt_of_lt_of_le m_q80 leq110
  have l_q10_q110 : q10 < q110 := Nat.lt_of_lt_of_le m_q10 leq110
  have l_q90_q110 : q90 < q110 := Nat.lt_of_lt_of_le m_q90 leq110
  have l_q87_q110 : q87 < q110 := Nat.lt_of_lt_of_le m_q87 leq110
  have l_q13_q110 : q13 < q110 := Nat.lt_of_lt_of_le m_q13 leq110
  have l_q16_q110 : q16 < q110 := Nat.lt_of_lt_of_le m_q16 leq110
  have l_q96_q110 : q96 < q110 := Nat.lt_of_lt_of_le m_q96 leq110
  have l_q1_q110 : q1 < q110 := Nat.lt_of_lt_of_le m_q1 leq110
  have l_q103_q110 : q103 < q110 := Nat.lt_of_lt_of_le m_q103 leq110
  have l_q100_q110 : q100 < q110 := Nat.lt_of_lt_of_le m_q100 leq110
  have l_q4_q110 : q4 < q110 := Nat.lt_of_lt_of_le m_q4 leq110
  have l_q107_q110 : q107 < q110 := Nat.lt_of_lt_of_le m_q107 leq110
  clear m_q19 m_q22 m_h0 m_q28 m_q35 m_q32 m_q42 m_q39 m_q49 m_q46 m_q56 m_q53 m_q62 m_q69 m_q66 m_q76 m_q73 m_q7 m_q83 m_q80 m_q10 m_q90 m_q87 m_q13 m_q16 m_q96 m_q1 m_q103 m_q100 m_q4 m_q107
  rw [hw1] at hF
  clear hw1 hd1 hk1
  obtain ⟨u111, hu111⟩ : ∃ y : fW, y = va_up u108 q110 (some (.inl (cs 7, 12, .inr (.inr (.inr (.inr (fun _ => none))))))) := ⟨_, rfl⟩
  rw [← hu111] at hF
  replace f_q19 : u111 q19 = some (.inl (cs 0, 8, .inl (fun _ => 0))) := by rw [hu111]; exact (va_up_ne _ _ (Nat.ne_of_lt l_q19_q110)).trans f_q19
  replace f_q22 : u111 q22 = some (.inr (4, [.int 0, .int 0, .int 0, .int (-1), .int 0, .long 0])) := by rw [hu111]; exact (va_up_ne _ _ (Nat.ne_of_lt l_q22_q110)).trans f_q22
  replace f_h0 : u111 h0 = some (.inr (8, [.ref q1, .ref q4, .ref q7, .ref q10, .ref q13, .ref q16, .ref q19, .ref q22])) := by rw [hu111]; exact (va_up_ne _ _ (Nat.ne_of_lt l_h0_q110)).trans f_h0
  replace f_q28 : u111 q28 = some (.inr (5, [.int 0, .int 0, .null, .null, .int 0, .int 0])) := by rw [hu111]; exact (va_up_ne _ _ (Nat.ne_of_lt l_q28_q110)).trans f_q28
  replace f_q35 : u111 q35 = some (.inl (cs 0, 12, .inl (fun _ => 0))) := by rw [hu111]; exact (va_up_ne _ _ (Nat.ne_of_lt l_q35_q110)).trans f_q35
  replace f_q32 : u111 q32 = some (.inr (0, [.ref q35, .int (-1)])) := by rw [hu111]; exact (va_up_ne _ _ (Nat.ne_of_lt l_q32_q110)).trans f_q32
  replace f_q42 : u111 q42 = some (.inl (cs 7, 12, .inr (.inr (.inr (.inr (fun _ => none)))))) := by rw [hu111]; exact (va_up_ne _ _ (Nat.ne_of_lt l_q42_q110)).trans f_q42
  replace f_q39 : u111 q39 = some (.inr (3, [.ref q42, .int (-1), .int 0])) := by rw [hu111]; exact (va_up_ne _ _ (Nat.ne_of_lt l_q39_q110)).trans f_q39
  replace f_q49 : u111 q49 = some (.inl (cs 0, 144, .inl (fun _ => 0))) := by rw [hu111]; exact (va_up_ne _ _ (Nat.ne_of_lt l_q49_q110)).trans f_q49
  replace f_q46 : u111 q46 = some (.inr (1, [.ref q49, .int (-1), .int 0])) := by rw [hu111]; exact (va_up_ne _ _ (Nat.ne_of_lt l_q46_q110)).trans f_q46
  replace f_q56 : u111 q56 = some (.inl (cs 8, 16, .inr (.inr (.inr (.inr (fun _ => none)))))) := by rw [hu111]; exact (va_up_ne _ _ (Nat.ne_of_lt l_q56_q110)).trans f_q56
  replace f_q53 : u111 q53 = some (.inr (2, [.ref q56, .int 0])) := by rw [hu111]; exact (va_up_ne _ _ (Nat.ne_of_lt l_q53_q110)).trans f_q53
  replace f_q62 : u111 q62 = some (.inr (5, [.int 0, .int 0, .null, .null, .int 0, .int 0])) := by rw [hu111]; exact (va_up_ne _ _ (Nat.ne_of_lt l_q62_q110)).trans f_q62
  replace f_q69 : u111 q69 = some (.inl (cs 0, 12, .inl (fun _ => 0))) := by rw [hu111]; exact (va_up_ne _ _ (Nat.ne_of_lt l_q69_q110)).trans f_q69
  replace f_q66 : u111 q66 = some (.inr (0, [.ref q69, .int (-1)])) := by rw [hu111]; exact (va_up_ne _ _ (Nat.ne_of_lt l_q66_q110)).trans f_q66
  replace f_q76 : u111 q76 = some (.inl (cs 7, 12, .inr (.inr (.inr (.inr (fun _ => none)))))) := by rw [hu111]; exact (va_up_ne _ _ (Nat.ne_of_lt l_q76_q110)).trans f_q76
  replace f_q73 : u111 q73 = some (.inr (3, [.ref q76, .int (-1), .int 0])) := by rw [hu111]; exact (va_up_ne _ _ (Nat.ne_of_lt l_q73_q110)).trans f_q73
  replace f_q7 : u111 q7 = some (.inl (cs 4, 4, .inr (.inr (.inr (.inr (va_up (va_up (fun _ => none) 0 (some q39)) 1 (some q73))))))) := by rw [hu111]; exact (va_up_ne _ _ (Nat.ne_of_lt l_q7_q110)).trans f_q7
  replace f_q83 : u111 q83 = some (.inl (cs 0, 144, .inl (fun _ => 0))) := by rw [hu111]; exact (va_up_ne _ _ (Nat.ne_of_lt l_q83_q110)).trans f_q83
  replace f_q80 : u111 q80 = some (.inr (1, [.ref q83, .int (-1), .int 0])) := by rw [hu111]; exact (va_up_ne _ _ (Nat.ne_of_lt l_q80_q110)).trans f_q80
  replace f_q10 : u111 q10 = some (.inl (cs 5, 4, .inr (.inr (.inr (.inr (va_up (va_up (fun _ => none) 0 (some q46)) 1 (some q80))))))) := by rw [hu111]; exact (va_up_ne _ _ (Nat.ne_of_lt l_q10_q110)).trans f_q10
  replace f_q90 : u111 q90 = some (.inl (cs 8, 16, .inr (.inr (.inr (.inr (fun _ => none)))))) := by rw [hu111]; exact (va_up_ne _ _ (Nat.ne_of_lt l_q90_q110)).trans f_q90
  replace f_q87 : u111 q87 = some (.inr (2, [.ref q90, .int 0])) := by rw [hu111]; exact (va_up_ne _ _ (Nat.ne_of_lt l_q87_q110)).trans f_q87
  replace f_q13 : u111 q13 = some (.inl (cs 6, 4, .inr (.inr (.inr (.inr (va_up (va_up (fun _ => none) 0 (some q53)) 1 (some q87))))))) := by rw [hu111]; exact (va_up_ne _ _ (Nat.ne_of_lt l_q13_q110)).trans f_q13
  replace f_q16 : u111 q16 = some (.inl (cs 0, 4, .inl (upd (upd (fun _ => 0) 0 1) 1 1))) := by rw [hu111]; exact (va_up_ne _ _ (Nat.ne_of_lt l_q16_q110)).trans f_q16
  replace f_q96 : u111 q96 = some (.inr (5, [.int 0, .int 0, .null, .null, .int 0, .int 0])) := by rw [hu111]; exact (va_up_ne _ _ (Nat.ne_of_lt l_q96_q110)).trans f_q96
  replace f_q1 : u111 q1 = some (.inl (cs 2, 4, .inr (.inr (.inr (.inr (va_up (va_up (va_up (fun _ => none) 0 (some q28)) 1 (some q62)) 2 (some q96))))))) := by rw [hu111]; exact (va_up_ne _ _ (Nat.ne_of_lt l_q1_q110)).trans f_q1
  replace f_q103 : u111 q103 = some (.inl (cs 0, 12, .inl (fun _ => 0))) := by rw [hu111]; exact (va_up_ne _ _ (Nat.ne_of_lt l_q103_q110)).trans f_q103
  replace f_q100 : u111 q100 = some (.inr (0, [.ref q103, .int (-1)])) := by rw [hu111]; exact (va_up_ne _ _ (Nat.ne_of_lt l_q100_q110)).trans f_q100
  replace f_q4 : u111 q4 = some (.inl (cs 3, 4, .inr (.inr (.inr (.inr (va_up (va_up (va_up (fun _ => none) 0 (some q32)) 1 (some q66)) 2 (some q100))))))) := by rw [hu111]; exact (va_up_ne _ _ (Nat.ne_of_lt l_q4_q110)).trans f_q4
  replace f_q107 : u111 q107 = some (.inr (3, [.null, .int 0, .int 0])) := by rw [hu111]; exact (va_up_ne _ _ (Nat.ne_of_lt l_q107_q110)).trans f_q107
  have f_q110 : u111 q110 = some (.inl (cs 7, 12, .inr (.inr (.inr (.inr (fun _ => none)))))) := by rw [hu111]; exact va_up_self _ _ _
  obtain ⟨u112, hu112⟩ : ∃ y : fW, y = va_up u111 q107 (some (.inr (3, [.ref q110, .int (-1), .int 0]))) := ⟨_, rfl⟩
  rw [← hu112] at hF
  replace f_q19 : u112 q19 = some (.inl (cs 0, 8, .inl (fun _ => 0))) := by rw [hu112]; exact (va_up_ne _ _ (Nat.ne_of_lt l_q19_q107)).trans f_q19
  replace f_q22 : u112 q22 = some (.inr (4, [.int 0, .int 0, .int 0, .int (-1), .int 0, .long 0])) := by rw [hu112]; exact (va_up_ne _ _ (Nat.ne_of_lt l_q22_q107)).trans f_q22
  replace f_h0 : u112 h0 = some (.inr (8, [.ref q1, .ref q4, .ref q7, .ref q10, .ref q13, .ref q16, .ref q19, .ref q22])) := by rw [hu112]; exact (va_up_ne _ _ (Nat.ne_of_lt l_h0_q107)).trans f_h0
  replace f_q28 : u112 q28 = some (.inr (5, [.int 0, .int 0, .null, .null, .int 0, .int 0])) := by rw [hu112]; exact (va_up_ne _ _ (Nat.ne_of_lt l_q28_q107)).trans f_q28
  replace f_q35 : u112 q35 = some (.inl (cs 0, 12, .inl (fun _ => 0))) := by rw [hu112]; exact (va_up_ne _ _ (Nat.ne_of_lt l_q35_q107)).trans f_q35
  replace f_q32 : u112 q32 = some (.inr (0, [.ref q35, .int (-1)])) := by rw [hu112]; exact (va_up_ne _ _ (Nat.ne_of_lt l_q32_q107)).trans f_q32
  replace f_q42 : u112 q42 = some (.inl (cs 7, 12, .inr (.inr (.inr (.inr (fun _ => none)))))) := by rw [hu112]; exact (va_up_ne _ _ (Nat.ne_of_lt l_q42_q107)).trans f_q42
  replace f_q39 : u112 q39 = some (.inr (3, [.ref q42, .int (-1), .int 0])) := by rw [hu112]; exact (va_up_ne _ _ (Nat.ne_of_lt l_q39_q107)).trans f_q39
  replace f_q49 : u112 q49 = some (.inl (cs 0, 144, .inl (fun _ => 0))) := by rw [hu112]; exact (va_up_ne _ _ (Nat.ne_of_lt l_q49_q107)).trans f_q49
  replace f_q46 : u112 q46 = some (.inr (1, [.ref q49, .int (-1), .int 0])) := by rw [hu112]; exact (va_up_ne _ _ (Nat.ne_of_lt l_q46_q107)).trans f_q46
  replace f_q56 : u112 q56 = some (.inl (cs 8, 16, .inr (.inr (.inr (.inr (fun _ => none)))))) := by rw [hu112]; exact (va_up_ne _ _ (Nat.ne_of_lt l_q56_q107)).trans f_q56
  replace f_q53 : u112 q53 = some (.inr (2, [.ref q56, .int 0])) := by rw [hu112]; exact (va_up_ne _ _ (Nat.ne_of_lt l_q53_q107)).trans f_q53
  replace f_q62 : u112 q62 = some (.inr (5, [.int 0, .int 0, .null, .null, .int 0, .int 0])) := by rw [hu112]; exact (va_up_ne _ _ (Nat.ne_of_lt l_q62_q107)).trans f_q62
  replace f_q69 : u112 q69 = some (.inl (cs 0, 12, .inl (fun _ => 0))) := by rw [hu112]; exact (va_up_ne _ _ (Nat.ne_of_lt l_q69_q107)).trans f_q69
  replace f_q66 : u112 q66 = some (.inr (0, [.ref q69, .int (-1)])) := by rw [hu112]; exact (va_up_ne _ _ (Nat.ne_of_lt l_q66_q107)).trans f_q66
  replace f_q76 : u112 q76 = some (.inl (cs 7, 12, .inr (.inr (.inr (.inr (fun _ => none)))))) := by rw [hu112]; exact (va_up_ne _ _ (Nat.ne_of_lt l_q76_q107)).trans f_q76
  replace f_q73 : u112 q73 = some (.inr (3, [.ref q76, .int (-1), .int 0])) := by rw [hu112]; exact (va_up_ne _ _ (Nat.ne_of_lt l_q73_q107)).trans f_q73
  replace f_q7 : u112 q7 = some (.inl (cs 4, 4, .inr (.inr (.inr (.inr (va_up (va_up (fun _ => none) 0 (some q39)) 1 (some q73))))))) := by rw [hu112]; exact (va_up_ne _ _ (Nat.ne_of_lt l_q7_q107)).trans f_q7
  replace f_q83 : u112 q83 = some (.inl (cs 0, 144, .inl (fun _ => 0))) := by rw [hu112]; exact (va_up_ne _ _ (Nat.ne_of_lt l_q83_q107)).trans f_q83
  replace f_q80 : u112 q80 = some (.inr (1, [.ref q83, .int (-1), .int 0])) := by rw [hu112]; exact (va_up_ne _ _ (Nat.ne_of_lt l_q80_q107)).trans f_q80
  replace f_q10 : u112 q10 = some (.inl (cs 5, 4, .inr (.inr (.inr (.inr (va_up (va_up (fun _ => none) 0 (some q46)) 1 (some q80))))))) := by rw [hu112]; exact (va_up_ne _ _ (Nat.ne_of_lt l_q10_q107)).trans f_q10
  replace f_q90 : u112 q90 = some (.inl (cs 8, 16, .inr (.inr (.inr (.inr (fun _ => none)))))) := by rw [hu112]; exact (va_up_ne _ _ (Nat.ne_of_lt l_q90_q107)).trans f_q90
  replace f_q87 : u112 q87 = some (.inr (2, [.ref q90, .int 0])) := by rw [hu112]; exact (va_up_ne _ _ (Nat.ne_of_lt l_q87_q107)).trans f_q87
  replace f_q13 : u112 q13 = some (.inl (cs 6, 4, .inr (.inr (.inr (.inr (va_up (va_up (fun _ => none) 0 (some q53)) 1 (some q87))))))) := by rw [hu112]; exact (va_up_ne _ _ (Nat.ne_of_lt l_q13_q107)).trans f_q13
  replace f_q16 : u112 q16 = some (.inl (cs 0, 4, .inl (upd (upd (fun _ => 0) 0 1) 1 1))) := by rw [hu112]; exact (va_up_ne _ _ (Nat.ne_of_lt l_q16_q107)).trans f_q16
  replace f_q96 : u112 q96 = some (.inr (5, [.int 0, .int 0, .null, .null, .int 0, .int 0])) := by rw [hu112]; exact (va_up_ne _ _ (Nat.ne_of_lt l_q96_q107)).trans f_q96
  replace f_q1 : u112 q1 = some (.inl (cs 2, 4, .inr (.inr (.inr (.inr (va_up (va_up (va_up (fun _ => none) 0 (some q28)) 1 (some q62)) 2 (some q96))))))) := by rw [hu112]; exact (va_up_ne _ _ (Nat.ne_of_lt l_q1_q107)).trans f_q1
  replace f_q103 : u112 q103 = some (.inl (cs 0, 12, .inl (fun _ => 0))) := by rw [hu112]; exact (va_up_ne _ _ (Nat.ne_of_lt l_q103_q107)).trans f_q103
  replace f_q100 : u112 q100 = some (.inr (0, [.ref q103, .int (-1)])) := by rw [hu112]; exact (va_up_ne _ _ (Nat.ne_of_lt l_q100_q107)).trans f_q100
  replace f_q4 : u112 q4 = some (.inl (cs 3, 4, .inr (.inr (.inr (.inr (va_up (va_up (va_up (fun _ => none) 0 (some q32)) 1 (some q66)) 2 (some q100))))))) := by rw [hu112]; exact (va_up_ne _ _ (Nat.ne_of_lt l_q4_q107)).trans f_q4
  replace f_q110 : u112 q110 = some (.inl (cs 7, 12, .inr (.inr (.inr (.inr (fun _ => none)))))) := by rw [hu112]; exact (va_up_ne _ _ (Nat.ne_of_gt l_q107_q110)).trans f_q110
  replace f_q107 : u112 q107 = some (.inr (3, [.ref q110, .int (-1), .int 0])) := by rw [hu112]; exact va_up_self _ _ _
  refine W.eq (g2 := F0 m 115 ls [.ref q107, .int 2, .ref q7]) rfl ?_
  refine fw_astq X hF hS f_q7 4 rfl f_q107 rfl (vp_in_iff.mpr (by decide)) dX8_init_115 (fun H locs hF hS => ?_)
  have hF : fw_P D cls10 A (va_up u112 q7 (some (.inl (cs 4, 4, .inr (.inr (.inr (.inr (va_up (va_up (va_up (fun _ => none) 0 (some q39)) 1 (some q73)) 2 (some q107))))))))) H := hF
  obtain ⟨u113, hu113⟩ : ∃ y : fW, y = va_up u112 q7 (some (.inl (cs 4, 4, .inr (.inr (.inr (.inr (va_up (va_up (va_up (fun _ => none) 0 (some q39)) 1 (some q73)) 2 (some q107)))))))) := ⟨_, rfl⟩
  rw [← hu113] at hF
  replace f_q19 : u113 q19 = some (.inl (cs 0, 8, .inl (fun _ => 0))) := by rw [hu113]; exact (va_up_ne _ _ (Nat.ne_of_gt l_q7_q19)).trans f_q19
  replace f_q22 : u113 q22 = some (.inr (4, [.int 0, .int 0, .int 0, .int (-1), .int 0, .long 0])) := by rw [hu113]; exact (va_up_ne _ _ (Nat.ne_of_gt l_q7_q22)).trans f_q22
  replace f_h0 : u113 h0 = some (.inr (8, [.ref q1, .ref q4, .ref q7, .ref q10, .ref q13, .ref q16, .ref q19, .ref q22])) := by rw [hu113]; exact (va_up_ne _ _ (Nat.ne_of_lt l_h0_q7)).trans f_h0
  replace f_q28 : u113 q28 = some (.inr (5, [.int 0, .int 0, .null, .null, .int 0, .int 0])) := by rw [hu113]; exact (va_up_ne _ _ (Nat.ne_of_gt l_q7_q28)).trans f_q28
  replace f_q35 : u113 q35 = some (.inl (cs 0, 12, .inl (fun _ => 0))) := by rw [hu113]; exact (va_up_ne _ _ (Nat.ne_of_gt l_q7_q35)).trans f_q35
  replace f_q32 : u113 q32 = some (.inr (0, [.ref q35, .int (-1)])) := by rw [hu113]; exact (va_up_ne _ _ (Nat.ne_of_gt l_q7_q32)).trans f_q32
  replace f_q42 : u113 q42 = some (.inl (cs 7, 12, .inr (.inr (.inr (.inr (fun _ => none)))))) := by rw [hu113]; exact (va_up_ne _ _ (Nat.ne_of_gt l_q7_q42)).trans f_q42
  replace f_q39 : u113 q39 = some (.inr (3, [.ref q42, .int (-1), .int 0])) := by rw [hu113]; exact (va_up_ne _ _ (Nat.ne_of_gt l_q7_q39)).trans f_q39
  replace f_q49 : u113 q49 = some (.inl (cs 0, 144, .inl (fun _ => 0))) := by rw [hu113]; exact (va_up_ne _ _ (Nat.ne_of_gt l_q7_q49)).trans f_q49
  replace f_q46 : u113 q46 = some (.inr (1, [.ref q49, .int (-1), .int 0])) := by rw [hu113]; exact (va_up_ne _ _ (Nat.ne_of_gt l_q7_q46)).trans f_q46
  replace f_q56 : u113 q56 = some (.inl (cs 8, 16, .inr (.inr (.inr (.inr (fun _ => none)))))) := by rw [hu113]; exact (va_up_ne _ _ (Nat.ne_of_gt l_q7_q56)).trans f_q56
  replace f_q53 : u113 q53 = some (.inr (2, [.ref q56, .int 0])) := by rw [hu113]; exact (va_up_ne _ _ (Nat.ne_of_gt l_q7_q53)).trans f_q53
  replace f_q62 : u113 q62 = some (.inr (5, [.int 0, .int 0, .null, .null, .int 0, .int 0])) := by rw [hu113]; exact (va_up_ne _ _ (Nat.ne_of_gt l_q7_q62)).trans f_q62
  replace f_q69 : u113 q69 = some (.inl (cs 0, 12, .inl (fun _ => 0))) := by rw [hu113]; exact (va_up_ne _ _ (Nat.ne_of_gt l_q7_q69)).trans f_q69
  replace f_q66 : u113 q66 = some (.inr (0, [.ref q69, .int (-1)])) := by rw [hu113]; exact (va_up_ne _ _ (Nat.ne_of_gt l_q7_q66)).trans f_q66
  replace f_q76 : u113 q76 = some (.inl (cs 7, 12, .inr (.inr (.inr (.inr (fun _ => none)))))) := by rw [hu113]; exact (va_up_ne _ _ (Nat.ne_of_gt l_q7_q76)).trans f_q76
  replace f_q73 : u113 q73 = some (.inr (3, [.ref q76, .int (-1), .int 0])) := by rw [hu113]; exact (va_up_ne _ _ (Nat.ne_of_gt l_q7_q73)).trans f_q73
  replace f_q83 : u113 q83 = some (.inl (cs 0, 144, .inl (fun _ => 0))) := by rw [hu113]; exact (va_up_ne _ _ (Nat.ne_of_gt l_q7_q83)).trans f_q83
  replace f_q80 : u113 q80 = some (.inr (1, [.ref q83, .int (-1), .int 0])) := by rw [hu113]; exact (va_up_ne _ _ (Nat.ne_of_gt l_q7_q80)).trans f_q80
  replace f_q10 : u113 q10 = some (.inl (cs 5, 4, .inr (.inr (.inr (.inr (va_up (va_up (fun _ => none) 0 (some q46)) 1 (some q80))))))) := by rw [hu113]; exact (va_up_ne _ _ (Nat.ne_of_gt l_q7_q10)).trans f_q10
  replace f_q90 : u113 q90 = some (.inl (cs 8, 16, .inr (.inr (.inr (.inr (fun _ => none)))))) := by rw [hu113]; exact (va_up_ne _ _ (Nat.ne_of_gt l_q7_q90)).trans f_q90
  replace f_q87 : u113 q87 = some (.inr (2, [.ref q90, .int 0])) := by rw [hu113]; exact (va_up_ne _ _ (Nat.ne_of_gt l_q7_q87)).trans f_q87
  replace f_q13 : u113 q13 = some (.inl (cs 6, 4, .inr (.inr (.inr (.inr (va_up (va_up (fun _ => none) 0 (some q53)) 1 (some q87))))))) := by rw [hu113]; exact (va_up_ne _ _ (Nat.ne_of_gt l_q7_q13)).trans f_q13
  replace f_q16 : u113 q16 = some (.inl (cs 0, 4, .inl (upd (upd (fun _ => 0) 0 1) 1 1))) := by rw [hu113]; exact (va_up_ne _ _ (Nat.ne_of_gt l_q7_q16)).trans f_q16
  replace f_q96 : u113 q96 = some (.inr (5, [.int 0, .int 0, .null, .null, .int 0, .int 0])) := by rw [hu113]; exact (va_up_ne _ _ (Nat.ne_of_gt l_q7_q96)).trans f_q96
  replace f_q1 : u113 q1 = some (.inl (cs 2, 4, .inr (.inr (.inr (.inr (va_up (va_up (va_up (fun _ => none) 0 (some q28)) 1 (some q62)) 2 (some q96))))))) := by rw [hu113]; exact (va_up_ne _ _ (Nat.ne_of_lt l_q1_q7)).trans f_q1
  replace f_q103 : u113 q103 = some (.inl (cs 0, 12, .inl (fun _ => 0))) := by rw [hu113]; exact (va_up_ne _ _ (Nat.ne_of_gt l_q7_q103)).trans f_q103
  replace f_q100 : u113 q100 = some (.inr (0, [.ref q103, .int (-1)])) := by rw [hu113]; exact (va_up_ne _ _ (Nat.ne_of_gt l_q7_q100)).trans f_q100
  replace f_q4 : u113 q4 = some (.inl (cs 3, 4, .inr (.inr (.inr (.inr (va_up (va_up (va_up (fun _ => none) 0 (some q32)) 1 (some q66)) 2 (some q100))))))) := by rw [hu113]; exact (va_up_ne _ _ (Nat.ne_of_lt l_q4_q7)).trans f_q4
  replace f_q110 : u113 q110 = some (.inl (cs 7, 12, .inr (.inr (.inr (.inr (fun _ => none)))))) := by rw [hu113]; exact (va_up_ne _ _ (Nat.ne_of_gt l_q7_q110)).trans f_q110
  replace f_q107 : u113 q107 = some (.inr (3, [.ref q110, .int (-1), .int 0])) := by rw [hu113]; exact (va_up_ne _ _ (Nat.ne_of_gt l_q7_q107)).trans f_q107
  replace f_q7 : u113 q7 = some (.inl (cs 4, 4, .inr (.inr (.inr (.inr (va_up (va_up (va_up (fun _ => none) 0 (some q39)) 1 (some q73)) 2 (some q107))))))) := by rw [hu113]; exact va_up_self _ _ _
  refine lv_aload_n hx hb dX8_init_116 rfl (lv_at hl 1 rfl) ?_
  refine fw_get X gC_ok hF f_h0 rfl 3 (by decide) wm_179 rfl dX8_init_117 ?_
  refine lv_iload_n hx hb dX8_init_120 rfl (lv_at hl 0 rfl) ?_
  have m_q19 := hF.lt f_q19
  have m_q22 := hF.lt f_q22
  have m_h0 := hF.lt f_h0
  have m_q28 := hF.lt f_q28
  have m_q35 := hF.lt f_q35
  have m_q32 := hF.lt f_q32
  have m_q42 := hF.lt f_q42
  have m_q39 := hF.lt f_q39
  have m_q49 := hF.lt f_q49
  have m_q46 := hF.lt f_q46
  have m_q56 := hF.lt f_q56
  have m_q53 := hF.lt f_q53
  have m_q62 := hF.lt f_q62
  have m_q69 := hF.lt f_q69
  have m_q66 := hF.lt f_q66
  have m_q76 := hF.lt f_q76
  have m_q73 := hF.lt f_q73
  have m_q83 := hF.lt f_q83
  have m_q80 := hF.lt f_q80
  have m_q10 := hF.lt f_q10
  have m_q90 := hF.lt f_q90
  have m_q87 := hF.lt f_q87
  have m_q13 := hF.lt f_q13
  have m_q16 := hF.lt f_q16
  have m_q96 := hF.lt f_q96
  have m_q1 := hF.lt f_q1
  have m_q103 := hF.lt f_q103
  have m_q100 := hF.lt f_q100
  have m_q4 := hF.lt f_q4
  have m_q110 := hF.lt f_q110
  have m_q107 := hF.lt f_q107
  have m_q7 := hF.lt f_q7
  refine fw_new (ci := 1) (fs := [.null, .int 0, .int 0]) X gC_ok hF hS rfl tyX1 tyX1_ok (by decide +kernel) wm_50 wm_145 wm_30 (Nat.le_of_ble_eq_true rfl) (Nat.le_of_ble_eq_true rfl) dX8_init_121 (fun q114 H nq114 zq114 zzq114 hF hS => ?_)
  have l_q19_q114 : q19 < q114 := Nat.lt_of_lt_of_le m_q19 (Nat.le_of_eq zq114.symm)
  have l_q22_q114 : q22 < q114 := Nat.lt_of_lt_of_le m_q22 (Nat.le_of_eq zq114.symm)
  have l_h0_q114 : h0 < q114 := Nat.lt_of_lt_of_le m_h0 (Nat.le_of_eq zq114.symm)
  have l_q28_q114 : q28 < q114 := Nat.lt_of_lt_of_le m_q28 (Nat.le_of_eq zq114.symm)
  have l_q35_q114 : q35 < q114 := Nat.lt_of_lt_of_le m_q35 (Nat.le_of_eq zq114.symm)
  have l_q32_q114 : q32 < q114 := Nat.lt_of_lt_of_le m_q32 (Nat.le_of_eq zq114.symm)
  have l_q42_q114 : q42 < q114 := Nat.lt_of_lt_of_le m_q42 (Nat.le_of_eq zq114.symm)
  have l_q39_q114 : q39 < q114 := Nat.lt_of_lt_of_le m_q39 (Nat.le_of_eq zq114.symm)
  have l_q49_q114 : q49 < q114 := Nat.lt_of_lt_of_le m_q49 (Nat.le_of_eq zq114.symm)
  have l_q46_q114 : q46 < q114 := Nat.lt_of_lt_of_le m_q46 (Nat.le_of_eq zq114.symm)
  have l_q56_q114 : q56 < q114 := Nat.lt_of_lt_of_le m_q56 (Nat.le_of_eq zq114.symm)
  have l_q53_q114 : q53 < q114 := Nat.lt_of_lt_of_le m_q53 (Nat.le_of_eq zq114.symm)
  have l_q62_q114 : q62 < q114 := Nat.lt_of_lt_of_le m_q62 (Nat.le_of_eq zq114.symm)
  have l_q69_q114 : q69 < q114 := Nat.lt_of_lt_of_le m_q69 (Nat.le_of_eq zq114.symm)
  have l_q66_q114 : q66 < q114 := Nat.lt_of_lt_of_le m_q66 (Nat.le_of_eq zq114.symm)
  have l_q76_q114 : q76 < q114 := Nat.lt_of_lt_of_le m_q76 (Nat.le_of_eq zq114.symm)
  have l_q73_q114 : q73 < q114 := Nat.lt_of_lt_of_le m_q73 (Nat.le_of_eq zq114.symm)
  have l_q83_q114 : q83 < q114 := Nat.lt_of_lt_of_le m_q83 (Nat.le_of_eq zq114.symm)
  have l_q80_q114 : q80 < q114 := Nat.lt_of_lt_of_le m_q80 (Nat.le_of_eq zq114.symm)
  have l_q10_q114 : q10 < q114 := Nat.lt_of_lt_of_le m_q10 (Nat.le_of_eq zq114.symm)
  have l_q90_q114 : q90 < q114 := Nat.lt_of_lt_of_le m_q90 (Nat.le_of_eq zq114.symm)
  have l_q87_q114 : q87 < q114 := Nat.lt_of_lt_of_le m_q87 (Nat.le_of_eq zq114.symm)
  have l_q13_q114 : q13 < q114 := Nat.lt_of_lt_of_le m_q13 (Nat.le_of_eq zq114.symm)
  have l_q16_q114 : q16 < q114 := Nat.lt_of_lt_of_le m_q16 (Nat.le_of_eq zq114.symm)
  have l_q96_q114 : q96 < q114 := Nat.lt_of_lt_of_le m_q96 (Nat.le_of_eq zq114.symm)
  have l_q1_q114 : q1 < q114 := Nat.lt_of_lt_of_le m_q1 (Nat.le_of_eq zq114.symm)
  have l_q103_q114 : q103 < q114 := Nat.lt_of_lt_of_le m_q103 (Nat.le_of_eq zq114.symm)
  have l_q100_q114 : q100 < q114 := Nat.lt_of_lt_of_le m_q100 (Nat.le_of_eq zq114.symm)
  have l_q4_q114 : q4 < q114 := Nat.lt_of_lt_of_le m_q4 (Nat.le_of_eq zq114.symm)
  have l_q110_q114 : q110 < q114 := Nat.lt_of_lt_of_le m_q110 (Nat.le_of_eq zq114.symm)
  have l_q107_q114 : q107 < q114 := Nat.lt_of_lt_of_le m_q107 (Nat.le_of_eq zq114.symm)
  have l_q7_q114 : q7 < q114 := Nat.lt_of_lt_of_le m_q7 (Nat.le_of_eq zq114.symm)
  clear m_q19 m_q22 m_h0 m_q28 m_q35 m_q32 m_q42 m_q39 m_q49 m_q46 m_q56 m_q53 m_q62 m_q69 m_q66 m_q76 m_q73 m_q83 m_q80 m_q10 m_q90 m_q87 m_q13 m_q16 m_q96 m_q1 m_q103 m_q100 m_q4 m_q110 m_q107 m_q7
  have hF : fw_P D cls10 A (va_up u113 q114 (some (.inr (1, [.null, .int 0, .int 0])))) H := hF
  obtain ⟨u115, hu115⟩ : ∃ y : fW, y = va_up u113 q114 (some (.inr (1, [.null, .int 0, .int 0]))) := ⟨_, rfl⟩
  rw [← hu115] at hF
  replace f_q19 : u115 q19 = some (.inl (cs 0, 8, .inl (fun _ => 0))) := by rw [hu115]; exact (va_up_ne _ _ (Nat.ne_of_lt l_q19_q114)).trans f_q19
  replace f_q22 : u115 q22 = some (.inr (4, [.int 0, .int 0, .int 0, .int (-1), .int 0, .long 0])) := by rw [hu115]; exact (va_up_ne _ _ (Nat.ne_of_lt l_q22_q114)).trans f_q22
  replace f_h0 : u115 h0 = some (.inr (8, [.ref q1, .ref q4, .ref q7, .ref q10, .ref q13, .ref q16, .ref q19, .ref q22])) := by rw [hu115]; exact (va_up_ne _ _ (Nat.ne_of_lt l_h0_q114)).trans f_h0
  replace f_q28 : u115 q28 = some (.inr (5, [.int 0, .int 0, .null, .null, .int 0, .int 0])) := by rw [hu115]; exact (va_up_ne _ _ (Nat.ne_of_lt l_q28_q114)).trans f_q28
  replace f_q35 : u115 q35 = some (.inl (cs 0, 12, .inl (fun _ => 0))) := by rw [hu115]; exact (va_up_ne _ _ (Nat.ne_of_lt l_q35_q114)).trans f_q35
  replace f_q32 : u115 q32 = some (.inr (0, [.ref q35, .int (-1)])) := by rw [hu115]; exact (va_up_ne _ _ (Nat.ne_of_lt l_q32_q114)).trans f_q32
  replace f_q42 : u115 q42 = some (.inl (cs 7, 12, .inr (.inr (.inr (.inr (fun _ => none)))))) := by rw [hu115]; exact (va_up_ne _ _ (Nat.ne_of_lt l_q42_q114)).trans f_q42
  replace f_q39 : u115 q39 = some (.inr (3, [.ref q42, .int (-1), .int 0])) := by rw [hu115]; exact (va_up_ne _ _ (Nat.ne_of_lt l_q39_q114)).trans f_q39
  replace f_q49 : u115 q49 = some (.inl (cs 0, 144, .inl (fun _ => 0))) := by rw [hu115]; exact (va_up_ne _ _ (Nat.ne_of_lt l_q49_q114)).trans f_q49
  replace f_q46 : u115 q46 = some (.inr (1, [.ref q49, .int (-1), .int 0])) := by rw [hu115]; exact (va_up_ne _ _ (Nat.ne_of_lt l_q46_q114)).trans f_q46
  replace f_q56 : u115 q56 = some (.inl (cs 8, 16, .inr (.inr (.inr (.inr (fun _ => none)))))) := by rw [hu115]; exact (va_up_ne _ _ (Nat.ne_of_lt l_q56_q114)).trans f_q56
  replace f_q53 : u115 q53 = some (.inr (2, [.ref q56, .int 0])) := by rw [hu115]; exact (va_up_ne _ _ (Nat.ne_of_lt l_q53_q114)).trans f_q53
  replace f_q62 : u115 q62 = some (.inr (5, [.int 0, .int 0, .null, .null, .int 0, .int 0])) := by rw [hu115]; exact (va_up_ne _ _ (Nat.ne_of_lt l_q62_q114)).trans f_q62
  replace f_q69 : u115 q69 = some (.inl (cs 0, 12, .inl (fun _ => 0))) := by rw [hu115]; exact (va_up_ne _ _ (Nat.ne_of_lt l_q69_q114)).trans f_q69
  replace f_q66 : u115 q66 = some (.inr (0, [.ref q69, .int (-1)])) := by rw [hu115]; exact (va_up_ne _ _ (Nat.ne_of_lt l_q66_q114)).trans f_q66
  replace f_q76 : u115 q76 = some (.inl (cs 7, 12, .inr (.inr (.inr (.inr (fun _ => none)))))) := by rw [hu115]; exact (va_up_ne _ _ (Nat.ne_of_lt l_q76_q114)).trans f_q76
  replace f_q73 : u115 q73 = some (.inr (3, [.ref q76, .int (-1), .int 0])) := by rw [hu115]; exact (va_up_ne _ _ (Nat.ne_of_lt l_q73_q114)).trans f_q73
  replace f_q83 : u115 q83 = some (.inl (cs 0, 144, .inl (fun _ => 0))) := by rw [hu115]; exact (va_up_ne _ _ (Nat.ne_of_lt l_q83_q114)).trans f_q83
  replace f_q80 : u115 q80 = some (.inr (1, [.ref q83, .int (-1), .int 0])) := by rw [hu115]; exact (va_up_ne _ _ (Nat.ne_of_lt l_q80_q114)).trans f_q80
  replace f_q10 : u115 q10 = some (.inl (cs 5, 4, .inr (.inr (.inr (.inr (va_up (va_up (fun _ => none) 0 (some q46)) 1 (some q80))))))) := by rw [hu115]; exact (va_up_ne _ _ (Nat.ne_of_lt l_q10_q114)).trans f_q10
  replace f_q90 : u115 q90 = some (.inl (cs 8, 16, .inr (.inr (.inr (.inr (fun _ => none)))))) := by rw [hu115]; exact (va_up_ne _ _ (Nat.ne_of_lt l_q90_q114)).trans f_q90
  replace f_q87 : u115 q87 = some (.inr (2, [.ref q90, .int 0])) := by rw [hu115]; exact (va_up_ne _ _ (Nat.ne_of_lt l_q87_q114)).trans f_q87
  replace f_q13 : u115 q13 = some (.inl (cs 6, 4, .inr (.inr (.inr (.inr (va_up (va_up (fun _ => none) 0 (some q53)) 1 (some q87))))))) := by rw [hu115]; exact (va_up_ne _ _ (Nat.ne_of_lt l_q13_q114)).trans f_q13
  replace f_q16 : u115 q16 = some (.inl (cs 0, 4, .inl (upd (upd (fun _ => 0) 0 1) 1 1))) := by rw [hu115]; exact (va_up_ne _ _ (Nat.ne_of_lt l_q16_q114)).trans f_q16
  replace f_q96 : u115 q96 = some (.inr (5, [.int 0, .int 0, .null, .null, .int 0, .int 0])) := by rw [hu115]; exact (va_up_ne _ _ (Nat.ne_of_lt l_q96_q114)).trans f_q96
  replace f_q1 : u115 q1 = some (.inl (cs 2, 4, .inr (.inr (.inr (.inr (va_up (va_up (va_up (fun _ => none) 0 (some q28)) 1 (some q62)) 2 (some q96))))))) := by rw [hu115]; exact (va_up_ne _ _ (Nat.ne_of_lt l_q1_q114)).trans f_q1
  replace f_q103 : u115 q103 = some (.inl (cs 0, 12, .inl (fun _ => 0))) := by rw [hu115]; exact (va_up_ne _ _ (Nat.ne_of_lt l_q103_q114)).trans f_q103
  replace f_q100 : u115 q100 = some (.inr (0, [.ref q103, .int (-1)])) := by rw [hu115]; exact (va_up_ne _ _ (Nat.ne_of_lt l_q100_q114)).trans f_q100
  replace f_q4 : u115 q4 = some (.inl (cs 3, 4, .inr (.inr (.inr (.inr (va_up (va_up (va_up (fun _ => none) 0 (some q32)) 1 (some q66)) 2 (some q100))))))) := by rw [hu115]; exact (va_up_ne _ _ (Nat.ne_of_lt l_q4_q114)).trans f_q4
  replace f_q110 : u115 q110 = some (.inl (cs 7, 12, .inr (.inr (.inr (.inr (fun _ => none)))))) := by rw [hu115]; exact (va_up_ne _ _ (Nat.ne_of_lt l_q110_q114)).trans f_q110
  replace f_q107 : u115 q107 = some (.inr (3, [.ref q110, .int (-1), .int 0])) := by rw [hu115]; exact (va_up_ne _ _ (Nat.ne_of_lt l_q107_q114)).trans f_q107
  replace f_q7 : u115 q7 = some (.inl (cs 4, 4, .inr (.inr (.inr (.inr (va_up (va_up (va_up (fun _ => none) 0 (some q39)) 1 (some q73)) 2 (some q107))))))) := by rw [hu115]; exact (va_up_ne _ _ (Nat.ne_of_lt l_q7_q114)).trans f_q7
  have f_q114 : u115 q114 = some (.inr (1, [.null, .int 0, .int 0])) := by rw [hu115]; exact va_up_self _ _ _
  refine lv_dup hx hb dX8_init_124 rfl ?_
  have m_q19 := hF.lt f_q19
  have m_q22 := hF.lt f_q22
  have m_h0 := hF.lt f_h0
  have m_q28 := hF.lt f_q28
  have m_q35 := hF.lt f_q35
  have m_q32 := hF.lt f_q32
  have m_q42 := hF.lt f_q42
  have m_q39 := hF.lt f_q39
  have m_q49 := hF.lt f_q49
  have m_q46 := hF.lt f_q46
  have m_q56 := hF.lt f_q56
  have m_q53 := hF.lt f_q53
  have m_q62 := hF.lt f_q62
  have m_q69 := hF.lt f_q69
  have m_q66 := hF.lt f_q66
  have m_q76 := hF.lt f_q76
  have m_q73 := hF.lt f_q73
  have m_q83 := hF.lt f_q83
  have m_q80 := hF.lt f_q80
  have m_q10 := hF.lt f_q10
  have m_q90 := hF.lt f_q90
  have m_q87 := hF.lt f_q87
  have m_q13 := hF.lt f_q13
  have m_q16 := hF.lt f_q16
  have m_q96 := hF.lt f_q96
  have m_q1 := hF.lt f_q1
  have m_q103 := hF.lt f_q103
  have m_q100 := hF.lt f_q100
  have m_q4 := hF.lt f_q4
  have m_q110 := hF.lt f_q110
  have m_q107 := hF.lt f_q107
  have m_q7 := hF.lt f_q7
  have m_q114 := hF.lt f_q114
  refine fw_callIN (As := []) (rest := [.ref q114, .int 2, .ref q10]) X bs_all nw_all mf_X1_init (c_X1_init l D cs _ _ q114 f_q114) nm_146 wm_147 rfl hF hS rfl ((⟨⟨Nat.le_of_ble_eq_true rfl, Nat.le_of_ble_eq_true rfl⟩, Nat.le_of_ble_eq_true rfl, Nat.le_of_ble_eq_true rfl⟩)) rfl hl.1 rfl (Nat.le_of_ble_eq_true rfl) dX8_init_125 (fun v u116 H locs hp hF hS hz1 hk1 hd1 => ?_)
  obtain ⟨hv1, q117, nq117, hw1⟩ := hp
  subst hv1
  have leq117 := (hd1 q117 (by rw [hw1, va_up_ne _ _ (Ne.symm (gx_ne f_q114 nq117)), va_up_self]; exact fun z => by cases z)).resolve_left (fun z => z nq117)
  have l_q19_q117 : q19 < q117 := Nat.lt_of_lt_of_le m_q19 leq117
  have l_q22_q117 : q22 < q117 := Nat.lt_of_lt_of_le m_q22 leq117
  have l_h0_q117 : h0 < q117 := Nat.lt_of_lt_of_le m_h0 leq117
  have l_q28_q117 : q28 < q117 := Nat.lt_of_lt_of_le m_q28 leq117
  have l_q35_q117 : q35 < q117 := Nat.lt_of_lt_of_le m_q35 leq117
  have l_q32_q117 : q32 < q117 := Nat.lt_of_lt_of_le m_q32 leq117
  have l_q42_q117 : q42 < q117 := Nat.lt_of_lt_of_le m_q42 leq117
  have l_q39_q117 : q39 < q117 := Nat.lt_of_lt_of_le m_q39 leq117
  have l_q49_q117 : q49 < q117 := Nat.lt_of_lt_of_le m_q49 leq117
  have l_q46_q117 : q46 < q117 := Nat.lt_of_lt_of_le m_q46 leq117
  have l_q56_q117 : q56 < q117 := Nat.lt_of_lt_of_le m_q56 leq117
  have l_q53_q117 : q53 < q117 := Nat.lt_of_lt_of_le m_q53 leq117
  have l_q62_q117 : q62 < q117 := Nat.lt_of_lt_of_le m_q62 leq117
  have l_q69_q117 : q69 < q117 := Nat.lt_of_lt_of_le m_q69 leq117
  have l_q66_q117 : q66 < q117 := Nat.lt_of_lt_of_le m_q66 leq117
  have l_q76_q117 : q76 < q117 := Nat.lt_of_lt_of_le m_q76 leq117
  have l_q73_q117 : q73 < q117 := Nat.lt_of_lt_of_le m_q73 leq117
  have l_q83_q117 : q83 < q117 := Nat.lt_of_lt_of_le m_q83 leq117
  have l_q80_q117 : q80 < q117 := Nat.lt_of_lt_of_le m_q80 leq117
  have l_q10_q117 : q10 < q117 := Nat.lt_of_lt_of_le m_q10 leq117
  have l_q90_q117 : q90 < q117 := Nat.lt_of_lt_of_le m_q90 leq117
  have l_q87_q117 : q87 < q117 := Nat.lt_of_lt_of_le m_q87 leq117
  have l_q13_q117 : q13 < q117 := Nat.lt_of_lt_of_le m_q13 leq117
  have l_q16_q117 : q16 < q117 := Nat.lt_of_lt_of_le m_q16 leq117
  have l_q96_q117 : q96 < q117 := Nat.lt_of_lt_of_le m_q96 leq117
  have l_q1_q117 : q1 < q117 := Nat.lt_of_lt_of_le m_q1 leq117
  have l_q103_q117 : q103 < q117 := Nat.lt_of_lt_of_le m_q103 leq117
  have l_q100_q117 : q100 < q117 := Nat.lt_of_lt_of_le m_q100 leq117
  have l_q4_q117 : q4 < q117 := Nat.lt_of_lt_of_le m_q4 leq117
  have l_q110_q117 : q110 < q117 := Nat.lt_of_lt_of_le m_q110 leq117
  have l_q107_q117 : q107 < q117 := Nat.lt_of_lt_of_le m_q107 leq117
  have l_q7_q117 : q7 < q117 := Nat.lt_of_lt_of_le m_q7 leq117
  have l_q114_q117 : q114 < q117 := Nat.lt_of_lt_of_le m_q114 leq117
  clear m_q19 m_q22 m_h0 m_q28 m_q35 m_q32 m_q42 m_q39 m_q49 m_q46 m_q56 m_q53 m_q62 m_q69 m_q66 m_q76 m_q73 m_q83 m_q80 m_q10 m_q90 m_q87 m_q13 m_q16 m_q96 m_q1 m_q103 m_q100 m_q4 m_q110 m_q107 m_q7 m_q114
  rw [hw1] at hF
  clear hw1 hd1 hk1
  obtain ⟨u118, hu118⟩ : ∃ y : fW, y = va_up u115 q117 (some (.inl (cs 0, 144, .inl (fun _ => 0)))) := ⟨_, rfl⟩
  rw [← hu118] at hF
  replace f_q19 : u118 q19 = some (.inl (cs 0, 8, .inl (fun _ => 0))) := by rw [hu118]; exact (va_up_ne _ _ (Nat.ne_of_lt l_q19_q117)).trans f_q19
  replace f_q22 : u118 q22 = some (.inr (4, [.int 0, .int 0, .int 0, .int (-1), .int 0, .long 0])) := by rw [hu118]; exact (va_up_ne _ _ (Nat.ne_of_lt l_q22_q117)).trans f_q22
  replace f_h0 : u118 h0 = some (.inr (8, [.ref q1, .ref q4, .ref q7, .ref q10, .ref q13, .ref q16, .ref q19, .ref q22])) := by rw [hu118]; exact (va_up_ne _ _ (Nat.ne_of_lt l_h0_q117)).trans f_h0
  replace f_q28 : u118 q28 = some (.inr (5, [.int 0, .int 0, .null, .null, .int 0, .int 0])) := by rw [hu118]; exact (va_up_ne _ _ (Nat.ne_of_lt l_q28_q117)).trans f_q28
  replace f_q35 : u118 q35 = some (.inl (cs 0, 12, .inl (fun _ => 0))) := by rw [hu118]; exact (va_up_ne _ _ (Nat.ne_of_lt l_q35_q117)).trans f_q35
  replace f_q32 : u118 q32 = some (.inr (0, [.ref q35, .int (-1)])) := by rw [hu118]; exact (va_up_ne _ _ (Nat.ne_of_lt l_q32_q117)).trans f_q32
  replace f_q42 : u118 q42 = some (.inl (cs 7, 12, .inr (.inr (.inr (.inr (fun _ => none)))))) := by rw [hu118]; exact (va_up_ne _ _ (Nat.ne_of_lt l_q42_q117)).trans f_q42
  replace f_q39 : u118 q39 = some (.inr (3, [.ref q42, .int (-1), .int 0])) := by rw [hu118]; exact (va_up_ne _ _ (Nat.ne_of_lt l_q39_q117)).trans f_q39
  replace f_q49 : u118 q49 = some (.inl (cs 0, 144, .inl (fun _ => 0))) := by rw [hu118]; exact (va_up_ne _ _ (Nat.ne_of_lt l_q49_q117)).trans f_q49
  replace f_q46 : u118 q46 = some (.inr (1, [.ref q49, .int (-1), .int 0])) := by rw [hu118]; exact (va_up_ne _ _ (Nat.ne_of_lt l_q46_q117)).trans f_q46
  replace f_q56 : u118 q56 = some (.inl (cs 8, 16, .inr (.inr (.inr (.inr (fun _ => none)))))) := by rw [hu118]; exact (va_up_ne _ _ (Nat.ne_of_lt l_q56_q117)).trans f_q56
  replace f_q53 : u118 q53 = some (.inr (2, [.ref q56, .int 0])) := by rw [hu118]; exact (va_up_ne _ _ (Nat.ne_of_lt l_q53_q117)).trans f_q53
  replace f_q62 : u118 q62 = some (.inr (5, [.int 0, .int 0, .null, .null, .int 0, .int 0])) := by rw [hu118]; exact (va_up_ne _ _ (Nat.ne_of_lt l_q62_q117)).trans f_q62
  replace f_q69 : u118 q69 = some (.inl (cs 0, 12, .inl (fun _ => 0))) := by rw [hu118]; exact (va_up_ne _ _ (Nat.ne_of_lt l_q69_q117)).trans f_q69
  replace f_q66 : u118 q66 = some (.inr (0, [.ref q69, .int (-1)])) := by rw [hu118]; exact (va_up_ne _ _ (Nat.ne_of_lt l_q66_q117)).trans f_q66
  replace f_q76 : u118 q76 = some (.inl (cs 7, 12, .inr (.inr (.inr (.inr (fun _ => none)))))) := by rw [hu118]; exact (va_up_ne _ _ (Nat.ne_of_lt l_q76_q117)).trans f_q76
  replace f_q73 : u118 q73 = some (.inr (3, [.ref q76, .int (-1), .int 0])) := by rw [hu118]; exact (va_up_ne _ _ (Nat.ne_of_lt l_q73_q117)).trans f_q73
  replace f_q83 : u118 q83 = some (.inl (cs 0, 144, .inl (fun _ => 0))) := by rw [hu118]; exact (va_up_ne _ _ (Nat.ne_of_lt l_q83_q117)).trans f_q83
  replace f_q80 : u118 q80 = some (.inr (1, [.ref q83, .int (-1), .int 0])) := by rw [hu118]; exact (va_up_ne _ _ (Nat.ne_of_lt l_q80_q117)).trans f_q80
  replace f_q10 : u118 q10 = some (.inl (cs 5, 4, .inr (.inr (.inr (.inr (va_up (va_up (fun _ => none) 0 (some q46)) 1 (some q80))))))) := by rw [hu118]; exact (va_up_ne _ _ (Nat.ne_of_lt l_q10_q117)).trans f_q10
  replace f_q90 : u118 q90 = some (.inl (cs 8, 16, .inr (.inr (.inr (.inr (fun _ => none)))))) := by rw [hu118]; exact (va_up_ne _ _ (Nat.ne_of_lt l_q90_q117)).trans f_q90
  replace f_q87 : u118 q87 = some (.inr (2, [.ref q90, .int 0])) := by rw [hu118]; exact (va_up_ne _ _ (Nat.ne_of_lt l_q87_q117)).trans f_q87
  replace f_q13 : u118 q13 = some (.inl (cs 6, 4, .inr (.inr (.inr (.inr (va_up (va_up (fun _ => none) 0 (some q53)) 1 (some q87))))))) := by rw [hu118]; exact (va_up_ne _ _ (Nat.ne_of_lt l_q13_q117)).trans f_q13
  replace f_q16 : u118 q16 = some (.inl (cs 0, 4, .inl (upd (upd (fun _ => 0) 0 1) 1 1))) := by rw [hu118]; exact (va_up_ne _ _ (Nat.ne_of_lt l_q16_q117)).trans f_q16
  replace f_q96 : u118 q96 = some (.inr (5, [.int 0, .int 0, .null, .null, .int 0, .int 0])) := by rw [hu118]; exact (va_up_ne _ _ (Nat.ne_of_lt l_q96_q117)).trans f_q96
  replace f_q1 : u118 q1 = some (.inl (cs 2, 4, .inr (.inr (.inr (.inr (va_up (va_up (va_up (fun _ => none) 0 (some q28)) 1 (some q62)) 2 (some q96))))))) := by rw [hu118]; exact (va_up_ne _ _ (Nat.ne_of_lt l_q1_q117)).trans f_q1
  replace f_q103 : u118 q103 = some (.inl (cs 0, 12, .inl (fun _ => 0))) := by rw [hu118]; exact (va_up_ne _ _ (Nat.ne_of_lt l_q103_q117)).trans f_q103
  replace f_q100 : u118 q100 = some (.inr (0, [.ref q103, .int (-1)])) := by rw [hu118]; exact (va_up_ne _ _ (Nat.ne_of_lt l_q100_q117)).trans f_q100
  replace f_q4 : u118 q4 = some (.inl (cs 3, 4, .inr (.inr (.inr (.inr (va_up (va_up (va_up (fun _ => none) 0 (some q32)) 1 (some q66)) 2 (some q100))))))) := by rw [hu118]; exact (va_up_ne _ _ (Nat.ne_of_lt l_q4_q117)).trans f_q4
  replace f_q110 : u118 q110 = some (.inl (cs 7, 12, .inr (.inr (.inr (.inr (fun _ => none)))))) := by rw [hu118]; exact (va_up_ne _ _ (Nat.ne_of_lt l_q110_q117)).trans f_q110
  replace f_q107 : u118 q107 = some (.inr (3, [.ref q110, .int (-1), .int 0])) := by rw [hu118]; exact (va_up_ne _ _ (Nat.ne_of_lt l_q107_q117)).trans f_q107
  replace f_q7 : u118 q7 = some (.inl (cs 4, 4, .inr (.inr (.inr (.inr (va_up (va_up (va_up (fun _ => none) 0 (some q39)) 1 (some q73)) 2 (some q107))))))) := by rw [hu118]; exact (va_up_ne _ _ (Nat.ne_of_lt l_q7_q117)).trans f_q7
  replace f_q114 : u118 q114 = some (.inr (1, [.null, .int 0, .int 0])) := by rw [hu118]; exact (va_up_ne _ _ (Nat.ne_of_lt l_q114_q117)).trans f_q114
  have f_q117 : u118 q117 = some (.inl (cs 0, 144, .inl (fun _ => 0))) := by rw [hu118]; exact va_up_self _ _ _
  obtain ⟨u119, hu119⟩ : ∃ y : fW, y = va_up u118 q114 (some (.inr (1, [.ref q117, .int (-1), .int 0]))) := ⟨_, rfl⟩
  rw [← hu119] at hF
  replace f_q19 : u119 q19 = some (.inl (cs 0, 8, .inl (fun _ => 0))) := by rw [hu119]; exact (va_up_ne _ _ (Nat.ne_of_lt l_q19_q114)).trans f_q19
  replace f_q22 : u119 q22 = some (.inr (4, [.int 0, .int 0, .int 0, .int (-1), .int 0, .long 0])) := by rw [hu119]; exact (va_up_ne _ _ (Nat.ne_of_lt l_q22_q114)).trans f_q22
  replace f_h0 : u119 h0 = some (.inr (8, [.ref q1, .ref q4, .ref q7, .ref q10, .ref q13, .ref q16, .ref q19, .ref q22])) := by rw [hu119]; exact (va_up_ne _ _ (Nat.ne_of_lt l_h0_q114)).trans f_h0
  replace f_q28 : u119 q28 = some (.inr (5, [.int 0, .int 0, .null, .null, .int 0, .int 0])) := by rw [hu119]; exact (va_up_ne _ _ (Nat.ne_of_lt l_q28_q114)).trans f_q28
  replace f_q35 : u119 q35 = some (.inl (cs 0, 12, .inl (fun _ => 0))) := by rw [hu119]; exact (va_up_ne _ _ (Nat.ne_of_lt l_q35_q114)).trans f_q35
  replace f_q32 : u119 q32 = some (.inr (0, [.ref q35, .int (-1)])) := by rw [hu119]; exact (va_up_ne _ _ (Nat.ne_of_lt l_q32_q114)).trans f_q32
  replace f_q42 : u119 q42 = some (.inl (cs 7, 12, .inr (.inr (.inr (.inr (fun _ => none)))))) := by rw [hu119]; exact (va_up_ne _ _ (Nat.ne_of_lt l_q42_q114)).trans f_q42
  replace f_q39 : u119 q39 = some (.inr (3, [.ref q42, .int (-1), .int 0])) := by rw [hu119]; exact (va_up_ne _ _ (Nat.ne_of_lt l_q39_q114)).trans f_q39
  replace f_q49 : u119 q49 = some (.inl (cs 0, 144, .inl (fun _ => 0))) := by rw [hu119]; exact (va_up_ne _ _ (Nat.ne_of_lt l_q49_q114)).trans f_q49
  replace f_q46 : u119 q46 = some (.inr (1, [.ref q49, .int (-1), .int 0])) := by rw [hu119]; exact (va_up_ne _ _ (Nat.ne_of_lt l_q46_q114)).trans f_q46
  replace f_q56 : u119 q56 = some (.inl (cs 8, 16, .inr (.inr (.inr (.inr (fun _ => none)))))) := by rw [hu119]; exact (va_up_ne _ _ (Nat.ne_of_lt l_q56_q114)).trans f_q56
  replace f_q53 : u119 q53 = some (.inr (2, [.ref q56, .int 0])) := by rw [hu119]; exact (va_up_ne _ _ (Nat.ne_of_lt l_q53_q114)).trans f_q53
  replace f_q62 : u119 q62 = some (.inr (5, [.int 0, .int 0, .null, .null, .int 0, .int 0])) := by rw [hu119]; exact (va_up_ne _ _ (Nat.ne_of_lt l_q62_q114)).trans f_q62
  replace f_q69 : u119 q69 = some (.inl (cs 0, 12, .inl (fun _ => 0))) := by rw [hu119]; exact (va_up_ne _ _ (Nat.ne_of_lt l_q69_q114)).trans f_q69
  replace f_q66 : u119 q66 = some (.inr (0, [.ref q69, .int (-1)])) := by rw [hu119]; exact (va_up_ne _ _ (Nat.ne_of_lt l_q66_q114)).trans f_q66
  replace f_q76 : u119 q76 = some (.inl (cs 7, 12, .inr (.inr (.inr (.inr (fun _ => none)))))) := by rw [hu119]; exact (va_up_ne _ _ (Nat.ne_of_lt l_q76_q114)).trans f_q76
  replace f_q73 : u119 q73 = some (.inr (3, [.ref q76, .int (-1), .int 0])) := by rw [hu119]; exact (va_up_ne _ _ (Nat.ne_of_lt l_q73_q114)).trans f_q73
  replace f_q83 : u119 q83 = some (.inl (cs 0, 144, .inl (fun _ => 0))) := by rw [hu119]; exact (va_up_ne _ _ (Nat.ne_of_lt l_q83_q114)).trans f_q83
  replace f_q80 : u119 q80 = some (.inr (1, [.ref q83, .int (-1), .int 0])) := by rw [hu119]; exact (va_up_ne _ _ (Nat.ne_of_lt l_q80_q114)).trans f_q80
  replace f_q10 : u119 q10 = some (.inl (cs 5, 4, .inr (.inr (.inr (.inr (va_up (va_up (fun _ => none) 0 (some q46)) 1 (some q80))))))) := by rw [hu119]; exact (va_up_ne _ _ (Nat.ne_of_lt l_q10_q114)).trans f_q10
  replace f_q90 : u119 q90 = some (.inl (cs 8, 16, .inr (.inr (.inr (.inr (fun _ => none)))))) := by rw [hu119]; exact (va_up_ne _ _ (Nat.ne_of_lt l_q90_q114)).trans f_q90
  replace f_q87 : u119 q87 = some (.inr (2, [.ref q90, .int 0])) := by rw [hu119]; exact (va_up_ne _ _ (Nat.ne_of_lt l_q87_q114)).trans f_q87
  replace f_q13 : u119 q13 = some (.inl (cs 6, 4, .inr (.inr (.inr (.inr (va_up (va_up (fun _ => none) 0 (some q53)) 1 (some q87))))))) := by rw [hu119]; exact (va_up_ne _ _ (Nat.ne_of_lt l_q13_q114)).trans f_q13
  replace f_q16 : u119 q16 = some (.inl (cs 0, 4, .inl (upd (upd (fun _ => 0) 0 1) 1 1))) := by rw [hu119]; exact (va_up_ne _ _ (Nat.ne_of_lt l_q16_q114)).trans f_q16
  replace f_q96 : u119 q96 = some (.inr (5, [.int 0, .int 0, .null, .null, .int 0, .int 0])) := by rw [hu119]; exact (va_up_ne _ _ (Nat.ne_of_lt l_q96_q114)).trans f_q96
  replace f_q1 : u119 q1 = some (.inl (cs 2, 4, .inr (.inr (.inr (.inr (va_up (va_up (va_up (fun _ => none) 0 (some q28)) 1 (some q62)) 2 (some q96))))))) := by rw [hu119]; exact (va_up_ne _ _ (Nat.ne_of_lt l_q1_q114)).trans f_q1
  replace f_q103 : u119 q103 = some (.inl (cs 0, 12, .inl (fun _ => 0))) := by rw [hu119]; exact (va_up_ne _ _ (Nat.ne_of_lt l_q103_q114)).trans f_q103
  replace f_q100 : u119 q100 = some (.inr (0, [.ref q103, .int (-1)])) := by rw [hu119]; exact (va_up_ne _ _ (Nat.ne_of_lt l_q100_q114)).trans f_q100
  replace f_q4 : u119 q4 = some (.inl (cs 3, 4, .inr (.inr (.inr (.inr (va_up (va_up (va_up (fun _ => none) 0 (some q32)) 1 (some q66)) 2 (some q100))))))) := by rw [hu119]; exact (va_up_ne _ _ (Nat.ne_of_lt l_q4_q114)).trans f_q4
  replace f_q110 : u119 q110 = some (.inl (cs 7, 12, .inr (.inr (.inr (.inr (fun _ => none)))))) := by rw [hu119]; exact (va_up_ne _ _ (Nat.ne_of_lt l_q110_q114)).trans f_q110
  replace f_q107 : u119 q107 = some (.inr (3, [.ref q110, .int (-1), .int 0])) := by rw [hu119]; exact (va_up_ne _ _ (Nat.ne_of_lt l_q107_q114)).trans f_q107
  replace f_q7 : u119 q7 = some (.inl (cs 4, 4, .inr (.inr (.inr (.inr (va_up (va_up (va_up (fun _ => none) 0 (some q39)) 1 (some q73)) 2 (some q107))))))) := by rw [hu119]; exact (va_up_ne _ _ (Nat.ne_of_lt l_q7_q114)).trans f_q7
  replace f_q117 : u119 q117 = some (.inl (cs 0, 144, .inl (fun _ => 0))) := by rw [hu119]; exact (va_up_ne _ _ (Nat.ne_of_gt l_q114_q117)).trans f_q117
  replace f_q114 : u119 q114 = some (.inr (1, [.ref q117, .int (-1), .int 0])) := by rw [hu119]; exact va_up_self _ _ _
  refine W.eq (g2 := F0 m 128 ls [.ref q114, .int 2, .ref q10]) rfl ?_
  refine fw_astq X hF hS f_q10 5 rfl f_q114 rfl (vp_in_iff.mpr (by decide)) dX8_init_128 (fun H locs hF hS => ?_)
  have hF : fw_P D cls10 A (va_up u119 q10 (some (.inl (cs 5, 4, .inr (.inr (.inr (.inr (va_up (va_up (va_up (fun _ => none) 0 (some q46)) 1 (some q80)) 2 (some q114))))))))) H := hF
  obtain ⟨u120, hu120⟩ : ∃ y : fW, y = va_up u119 q10 (some (.inl (cs 5, 4, .inr (.inr (.inr (.inr (va_up (va_up (va_up (fun _ => none) 0 (some q46)) 1 (some q80)) 2 (some q114)))))))) := ⟨_, rfl⟩
  rw [← hu120] at hF
  replace f_q19 : u120 q19 = some (.inl (cs 0, 8, .inl (fun _ => 0))) := by rw [hu120]; exact (va_up_ne _ _ (Nat.ne_of_gt l_q10_q19)).trans f_q19
  replace f_q22 : u120 q22 = some (.inr (4, [.int 0, .int 0, .int 0, .int (-1), .int 0, .long 0])) := by rw [hu120]; exact (va_up_ne _ _ (Nat.ne_of_gt l_q10_q22)).trans f_q22
  replace f_h0 : u120 h0 = some (.inr (8, [.ref q1, .ref q4, .ref q7, .ref q10, .ref q13, .ref q16, .ref q19, .ref q22])) := by rw [hu120]; exact (va_up_ne _ _ (Nat.ne_of_lt l_h0_q10)).trans f_h0
  replace f_q28 : u120 q28 = some (.inr (5, [.int 0, .int 0, .null, .null, .int 0, .int 0])) := by rw [hu120]; exact (va_up_ne _ _ (Nat.ne_of_gt l_q10_q28)).trans f_q28
  replace f_q35 : u120 q35 = some (.inl (cs 0, 12, .inl (fun _ => 0))) := by rw [hu120]; exact (va_up_ne _ _ (Nat.ne_of_gt l_q10_q35)).trans f_q35
  replace f_q32 : u120 q32 = some (.inr (0, [.ref q35, .int (-1)])) := by rw [hu120]; exact (va_up_ne _ _ (Nat.ne_of_gt l_q10_q32)).trans f_q32
  replace f_q42 : u120 q42 = some (.inl (cs 7, 12, .inr (.inr (.inr (.inr (fun _ => none)))))) := by rw [hu120]; exact (va_up_ne _ _ (Nat.ne_of_gt l_q10_q42)).trans f_q42
  replace f_q39 : u120 q39 = some (.inr (3, [.ref q42, .int (-1), .int 0])) := by rw [hu120]; exact (va_up_ne _ _ (Nat.ne_of_gt l_q10_q39)).trans f_q39
  replace f_q49 : u120 q49 = some (.inl (cs 0, 144, .inl (fun _ => 0))) := by rw [hu120]; exact (va_up_ne _ _ (Nat.ne_of_gt l_q10_q49)).trans f_q49
  replace f_q46 : u120 q46 = some (.inr (1, [.ref q49, .int (-1), .int 0])) := by rw [hu120]; exact (va_up_ne _ _ (Nat.ne_of_gt l_q10_q46)).trans f_q46
  replace f_q56 : u120 q56 = some (.inl (cs 8, 16, .inr (.inr (.inr (.inr (fun _ => none)))))) := by rw [hu120]; exact (va_up_ne _ _ (Nat.ne_of_gt l_q10_q56)).trans f_q56
  replace f_q53 : u120 q53 = some (.inr (2, [.ref q56, .int 0])) := by rw [hu120]; exact (va_up_ne _ _ (Nat.ne_of_gt l_q10_q53)).trans f_q53
  replace f_q62 : u120 q62 = some (.inr (5, [.int 0, .int 0, .null, .null, .int 0, .int 0])) := by rw [hu120]; exact (va_up_ne _ _ (Nat.ne_of_gt l_q10_q62)).trans f_q62
  replace f_q69 : u120 q69 = some (.inl (cs 0, 12, .inl (fun _ => 0))) := by rw [hu120]; exact (va_up_ne _ _ (Nat.ne_of_gt l_q10_q69)).trans f_q69
  replace f_q66 : u120 q66 = some (.inr (0, [.ref q69, .int (-1)])) := by rw [hu120]; exact (va_up_ne _ _ (Nat.ne_of_gt l_q10_q66)).trans f_q66
  replace f_q76 : u120 q76 = some (.inl (cs 7, 12, .inr (.inr (.inr (.inr (fun _ => none)))))) := by rw [hu120]; exact (va_up_ne _ _ (Nat.ne_of_gt l_q10_q76)).trans f_q76
  replace f_q73 : u120 q73 = some (.inr (3, [.ref q76, .int (-1), .int 0])) := by rw [hu120]; exact (va_up_ne _ _ (Nat.ne_of_gt l_q10_q73)).trans f_q73
  replace f_q83 : u120 q83 = some (.inl (cs 0, 144, .inl (fun _ => 0))) := by rw [hu120]; exact (va_up_ne _ _ (Nat.ne_of_gt l_q10_q83)).trans f_q83
  replace f_q80 : u120 q80 = some (.inr (1, [.ref q83, .int (-1), .int 0])) := by rw [hu120]; exact (va_up_ne _ _ (Nat.ne_of_gt l_q10_q80)).trans f_q80
  replace f_q90 : u120 q90 = some (.inl (cs 8, 16, .inr (.inr (.inr (.inr (fun _ => none)))))) := by rw [hu120]; exact (va_up_ne _ _ (Nat.ne_of_gt l_q10_q90)).trans f_q90
  replace f_q87 : u120 q87 = some (.inr (2, [.ref q90, .int 0])) := by rw [hu120]; exact (va_up_ne _ _ (Nat.ne_of_gt l_q10_q87)).trans f_q87
  replace f_q13 : u120 q13 = some (.inl (cs 6, 4, .inr (.inr (.inr (.inr (va_up (va_up (fun _ => none) 0 (some q53)) 1 (some q87))))))) := by rw [hu120]; exact (va_up_ne _ _ (Nat.ne_of_gt l_q10_q13)).trans f_q13
  replace f_q16 : u120 q16 = some (.inl (cs 0, 4, .inl (upd (upd (fun _ => 0) 0 1) 1 1))) := by rw [hu120]; exact (va_up_ne _ _ (Nat.ne_of_gt l_q10_q16)).trans f_q16
  replace f_q96 : u120 q96 = some (.inr (5, [.int 0, .int 0, .null, .null, .int 0, .int 0])) := by rw [hu120]; exact (va_up_ne _ _ (Nat.ne_of_gt l_q10_q96)).trans f_q96
  replace f_q1 : u120 q1 = some (.inl (cs 2, 4, .inr (.inr (.inr (.inr (va_up (va_up (va_up (fun _ => none) 0 (some q28)) 1 (some q62)) 2 (some q96))))))) := by rw [hu120]; exact (va_up_ne _ _ (Nat.ne_of_lt l_q1_q10)).trans f_q1
  replace f_q103 : u120 q103 = some (.inl (cs 0, 12, .inl (fun _ => 0))) := by rw [hu120]; exact (va_up_ne _ _ (Nat.ne_of_gt l_q10_q103)).trans f_q103
  replace f_q100 : u120 q100 = some (.inr (0, [.ref q103, .int (-1)])) := by rw [hu120]; exact (va_up_ne _ _ (Nat.ne_of_gt l_q10_q100)).trans f_q100
  replace f_q4 : u120 q4 = some (.inl (cs 3, 4, .inr (.inr (.inr (.inr (va_up (va_up (va_up (fun _ => none) 0 (some q32)) 1 (some q66)) 2 (some q100))))))) := by rw [hu120]; exact (va_up_ne _ _ (Nat.ne_of_lt l_q4_q10)).trans f_q4
  replace f_q110 : u120 q110 = some (.inl (cs 7, 12, .inr (.inr (.inr (.inr (fun _ => none)))))) := by rw [hu120]; exact (va_up_ne _ _ (Nat.ne_of_gt l_q10_q110)).trans f_q110
  replace f_q107 : u120 q107 = some (.inr (3, [.ref q110, .int (-1), .int 0])) := by rw [hu120]; exact (va_up_ne _ _ (Nat.ne_of_gt l_q10_q107)).trans f_q107
  replace f_q7 : u120 q7 = some (.inl (cs 4, 4, .inr (.inr (.inr (.inr (va_up (va_up (va_up (fun _ => none) 0 (some q39)) 1 (some q73)) 2 (some q107))))))) := by rw [hu120]; exact (va_up_ne _ _ (Nat.ne_of_lt l_q7_q10)).trans f_q7
  replace f_q117 : u120 q117 = some (.inl (cs 0, 144, .inl (fun _ => 0))) := by rw [hu120]; exact (va_up_ne _ _ (Nat.ne_of_gt l_q10_q117)).trans f_q117
  replace f_q114 : u120 q114 = some (.inr (1, [.ref q117, .int (-1), .int 0])) := by rw [hu120]; exact (va_up_ne _ _ (Nat.ne_of_gt l_q10_q114)).trans f_q114
  replace f_q10 : u120 q10 = some (.inl (cs 5, 4, .inr (.inr (.inr (.inr (va_up (va_up (va_up (fun _ => none) 0 (some q46)) 1 (some q80)) 2 (some q114))))))) := by rw [hu120]; exact va_up_self _ _ _
  refine lv_aload_n hx hb dX8_init_129 rfl (lv_at hl 1 rfl) ?_
  refine fw_get X gC_ok hF f_h0 rfl 4 (by decide) wm_180 rfl dX8_init_130 ?_
  refine lv_iload_n hx hb dX8_init_133 rfl (lv_at hl 0 rfl) ?_
  have m_q19 := hF.lt f_q19
  have m_q22 := hF.lt f_q22
  have m_h0 := hF.lt f_h0
  have m_q28 := hF.lt f_q28
  have m_q35 := hF.lt f_q35
  have m_q32 := hF.lt f_q32
  have m_q42 := hF.lt f_q42
  have m_q39 := hF.lt f_q39
  have m_q49 := hF.lt f_q49
  have m_q46 := hF.lt f_q46
  have m_q56 := hF.lt f_q56
  have m_q53 := hF.lt f_q53
  have m_q62 := hF.lt f_q62
  have m_q69 := hF.lt f_q69
  have m_q66 := hF.lt f_q66
  have m_q76 := hF.lt f_q76
  have m_q73 := hF.lt f_q73
  have m_q83 := hF.lt f_q83
  have m_q80 := hF.lt f_q80
  have m_q90 := hF.lt f_q90
  have m_q87 := hF.lt f_q87
  have m_q13 := hF.lt f_q13
  have m_q16 := hF.lt f_q16
  have m_q96 := hF.lt f_q96
  have m_q1 := hF.lt f_q1
  have m_q103 := hF.lt f_q103
  have m_q100 := hF.lt f_q100
  have m_q4 := hF.lt f_q4
  have m_q110 := hF.lt f_q110
  have m_q107 := hF.lt f_q107
  have m_q7 := hF.lt f_q7
  have m_q117 := hF.lt f_q117
  have m_q114 := hF.lt f_q114
  have m_q10 := hF.lt f_q10
  refine fw_new (ci := 2) (fs := [.null, .int 0]) X gC_ok hF hS rfl tyX2 tyX2_ok (by decide +kernel) wm_52 wm_161 wm_31 (Nat.le_of_ble_eq_true rfl) (Nat.le_of_ble_eq_true rfl) dX8_init_134 (fun q121 H nq121 zq121 zzq121 hF hS => ?_)
  have l_q19_q121 : q19 < q121 := Nat.lt_of_lt_of_le m_q19 (Nat.le_of_eq zq121.symm)
  have l_q22_q121 : q22 < q121 := Nat.lt_of_lt_of_le m_q22 (Nat.le_of_eq zq121.symm)
  have l_h0_q121 : h0 < q121 := Nat.lt_of_lt_of_le m_h0 (Nat.le_of_eq zq121.symm)
  have l_q28_q121 : q28 < q121 := Nat.lt_of_lt_of_le m_q28 (Nat.le_of_eq zq121.symm)
  have l_q35_q121 : q35 < q121 := Nat.lt_of_lt_of_le m_q35 (Nat.le_of_eq zq121.symm)
  have l_q32_q121 : q32 < q121 := Nat.lt_of_lt_of_le m_q32 (Nat.le_of_eq zq121.symm)
  have l_q42_q121 : q42 < q121 := Nat.lt_of_lt_of_le m_q42 (Nat.le_of_eq zq121.symm)
  have l_q39_q121 : q39 < q121 := Nat.lt_of_lt_of_le m_q39 (Nat.le_of_eq zq121.symm)
  have l_q49_q121 : q49 < q121 := Nat.lt_of_lt_of_le m_q49 (Nat.le_of_eq zq121.symm)
  have l_q46_q121 : q46 < q121 := Nat.lt_of_lt_of_le m_q46 (Nat.le_of_eq zq121.symm)
  have l_q56_q121 : q56 < q121 := Nat.lt_of_lt_of_le m_q56 (Nat.le_of_eq zq121.symm)
  have l_q53_q121 : q53 < q121 := Nat.lt_of_lt_of_le m_q53 (Nat.le_of_eq zq121.symm)
  have l_q62_q121 : q62 < q121 := Nat.lt_of_lt_of_le m_q62 (Nat.le_of_eq zq121.symm)
  have l_q69_q121 : q69 < q121 := Nat.lt_of_lt_of_le m_q69 (Nat.le_of_eq zq121.symm)
  have l_q66_q121 : q66 < q121 := Nat.lt_of_lt_of_le m_q66 (Nat.le_of_eq zq121.symm)
  have l_q76_q121 : q76 < q121 := Nat.lt_of_lt_of_le m_q76 (Nat.le_of_eq zq121.symm)
  have l_q73_q121 : q73 < q121 := Nat.lt_of_lt_of_le m_q73 (Nat.le_of_eq zq121.symm)
  have l_q83_q121 : q83 < q121 := Nat.lt_of_lt_of_le m_q83 (Nat.le_of_eq zq121.symm)
  have l_q80_q121 : q80 < q121 := Nat.lt_of_lt_of_le m_q80 (Nat.le_of_eq zq121.symm)
  have l_q90_q121 : q90 < q121 := Nat.lt_of_lt_of_le m_q90 (Nat.le_of_eq zq121.symm)
  have l_q87_q121 : q87 < q121 := Nat.lt_of_lt_of_le m_q87 (Nat.le_of_eq zq121.symm)
  have l_q13_q121 : q13 < q121 := Nat.lt_of_lt_of_le m_q13 (Nat.le_of_eq zq121.symm)
  have l_q16_q121 : q16 < q121 := Nat.lt_of_lt_of_le m_q16 (Nat.le_of_eq zq121.symm)
  have l_q96_q121 : q96 < q121 := Nat.lt_of_lt_of_le m_q96 (Nat.le_of_eq zq121.symm)
  have l_q1_q121 : q1 < q121 := Nat.lt_of_lt_of_le m_q1 (Nat.le_of_eq zq121.symm)
  have l_q103_q121 : q103 < q121 := Nat.lt_of_lt_of_le m_q103 (Nat.le_of_eq zq121.symm)
  have l_q100_q121 : q100 < q121 := Nat.lt_of_lt_of_le m_q100 (Nat.le_of_eq zq121.symm)
  have l_q4_q121 : q4 < q121 := Nat.lt_of_lt_of_le m_q4 (Nat.le_of_eq zq121.symm)
  have l_q110_q121 : q110 < q121 := Nat.lt_of_lt_of_le m_q110 (Nat.le_of_eq zq121.symm)
  have l_q107_q121 : q107 < q121 := Nat.lt_of_lt_of_le m_q107 (Nat.le_of_eq zq121.symm)
  have l_q7_q121 : q7 < q121 := Nat.lt_of_lt_of_le m_q7 (Nat.le_of_eq zq121.symm)
  have l_q117_q121 : q117 < q121 := Nat.lt_of_lt_of_le m_q117 (Nat.le_of_eq zq121.symm)
  have l_q114_q121 : q114 < q121 := Nat.lt_of_lt_of_le m_q114 (Nat.le_of_eq zq121.symm)
  have l_q10_q121 : q10 < q121 := Nat.lt_of_lt_of_le m_q10 (Nat.le_of_eq zq121.symm)
  clear m_q19 m_q22 m_h0 m_q28 m_q35 m_q32 m_q42 m_q39 m_q49 m_q46 m_q56 m_q53 m_q62 m_q69 m_q66 m_q76 m_q73 m_q83 m_q80 m_q90 m_q87 m_q13 m_q16 m_q96 m_q1 m_q103 m_q100 m_q4 m_q110 m_q107 m_q7 m_q117 m_q114 m_q10
  have hF : fw_P D cls10 A (va_up u120 q121 (some (.inr (2, [.null, .int 0])))) H := hF
  obtain ⟨u122, hu122⟩ : ∃ y : fW, y = va_up u120 q121 (some (.inr (2, [.null, .int 0]))) := ⟨_, rfl⟩
  rw [← hu122] at hF
  replace f_q19 : u122 q19 = some (.inl (cs 0, 8, .inl (fun _ => 0))) := by rw [hu122]; exact (va_up_ne _ _ (Nat.ne_of_lt l_q19_q121)).trans f_q19
  replace f_q22 : u122 q22 = some (.inr (4, [.int 0, .int 0, .int 0, .int (-1), .int 0, .long 0])) := by rw [hu122]; exact (va_up_ne _ _ (Nat.ne_of_lt l_q22_q121)).trans f_q22
  replace f_h0 : u122 h0 = some (.inr (8, [.ref q1, .ref q4, .ref q7, .ref q10, .ref q13, .ref q16, .ref q19, .ref q22])) := by rw [hu122]; exact (va_up_ne _ _ (Nat.ne_of_lt l_h0_q121)).trans f_h0
  replace f_q28 : u122 q28 = some (.inr (5, [.int 0, .int 0, .null, .null, .int 0, .int 0])) := by rw [hu122]; exact (va_up_ne _ _ (Nat.ne_of_lt l_q28_q121)).trans f_q28
  replace f_q35 : u122 q35 = some (.inl (cs 0, 12, .inl (fun _ => 0))) := by rw [hu122]; exact (va_up_ne _ _ (Nat.ne_of_lt l_q35_q121)).trans f_q35
  replace f_q32 : u122 q32 = some (.inr (0, [.ref q35, .int (-1)])) := by rw [hu122]; exact (va_up_ne _ _ (Nat.ne_of_lt l_q32_q121)).trans f_q32
  replace f_q42 : u122 q42 = some (.inl (cs 7, 12, .inr (.inr (.inr (.inr (fun _ => none)))))) := by rw [hu122]; exact (va_up_ne _ _ (Nat.ne_of_lt l_q42_q121)).trans f_q42
  replace f_q39 : u122 q39 = some (.inr (3, [.ref q42, .int (-1), .int 0])) := by rw [hu122]; exact (va_up_ne _ _ (Nat.ne_of_lt l_q39_q121)).trans f_q39
  replace f_q49 : u122 q49 = some (.inl (cs 0, 144, .inl (fun _ => 0))) := by rw [hu122]; exact (va_up_ne _ _ (Nat.ne_of_lt l_q49_q121)).trans f_q49
  replace f_q46 : u122 q46 = some (.inr (1, [.ref q49, .int (-1), .int 0])) := by rw [hu122]; exact (va_up_ne _ _ (Nat.ne_of_lt l_q46_q121)).trans f_q46
  replace f_q56 : u122 q56 = some (.inl (cs 8, 16, .inr (.inr (.inr (.inr (fun _ => none)))))) := by rw [hu122]; exact (va_up_ne _ _ (Nat.ne_of_lt l_q56_q121)).trans f_q56
  replace f_q53 : u122 q53 = some (.inr (2, [.ref q56, .int 0])) := by rw [hu122]; exact (va_up_ne _ _ (Nat.ne_of_lt l_q53_q121)).trans f_q53
  replace f_q62 : u122 q62 = some (.inr (5, [.int 0, .int 0, .null, .null, .int 0, .int 0])) := by rw [hu122]; exact (va_up_ne _ _ (Nat.ne_of_lt l_q62_q121)).trans f_q62
  replace f_q69 : u122 q69 = some (.inl (cs 0, 12, .inl (fun _ => 0))) := by rw [hu122]; exact (va_up_ne _ _ (Nat.ne_of_lt l_q69_q121)).trans f_q69
  replace f_q66 : u122 q66 = some (.inr (0, [.ref q69, .int (-1)])) := by rw [hu122]; exact (va_up_ne _ _ (Nat.ne_of_lt l_q66_q121)).trans f_q66
  replace f_q76 : u122 q76 = some (.inl (cs 7, 12, .inr (.inr (.inr (.inr (fun _ => none)))))) := by rw [hu122]; exact (va_up_ne _ _ (Nat.ne_of_lt l_q76_q121)).trans f_q76
  replace f_q73 : u122 q73 = some (.inr (3, [.ref q76, .int (-1), .int 0])) := by rw [hu122]; exact (va_up_ne _ _ (Nat.ne_of_lt l_q73_q121)).trans f_q73
  replace f_q83 : u122 q83 = some (.inl (cs 0, 144, .inl (fun _ => 0))) := by rw [hu122]; exact (va_up_ne _ _ (Nat.ne_of_lt l_q83_q121)).trans f_q83
  replace f_q80 : u122 q80 = some (.inr (1, [.ref q83, .int (-1), .int 0])) := by rw [hu122]; exact (va_up_ne _ _ (Nat.ne_of_lt l_q80_q121)).trans f_q80
  replace f_q90 : u122 q90 = some (.inl (cs 8, 16, .inr (.inr (.inr (.inr (fun _ => none)))))) := by rw [hu122]; exact (va_up_ne _ _ (Nat.ne_of_lt l_q90_q121)).trans f_q90
  replace f_q87 : u122 q87 = some (.inr (2, [.ref q90, .int 0])) := by rw [hu122]; exact (va_up_ne _ _ (Nat.ne_of_lt l_q87_q121)).trans f_q87
  replace f_q13 : u122 q13 = some (.inl (cs 6, 4, .inr (.inr (.inr (.inr (va_up (va_up (fun _ => none) 0 (some q53)) 1 (some q87))))))) := by rw [hu122]; exact (va_up_ne _ _ (Nat.ne_of_lt l_q13_q121)).trans f_q13
  replace f_q16 : u122 q16 = some (.inl (cs 0, 4, .inl (upd (upd (fun _ => 0) 0 1) 1 1))) := by rw [hu122]; exact (va_up_ne _ _ (Nat.ne_of_lt l_q16_q121)).trans f_q16
  replace f_q96 : u122 q96 = some (.inr (5, [.int 0, .int 0, .null, .null, .int 0, .int 0])) := by rw [hu122]; exact (va_up_ne _ _ (Nat.ne_of_lt l_q96_q121)).trans f_q96
  replace f_q1 : u122 q1 = some (.inl (cs 2, 4, .inr (.inr (.inr (.inr (va_up (va_up (va_up (fun _ => none) 0 (some q28)) 1 (some q62)) 2 (some q96))))))) := by rw [hu122]; exact (va_up_ne _ _ (Nat.ne_of_lt l_q1_q121)).trans f_q1
  replace f_q103 : u122 q103 = some (.inl (cs 0, 12, .inl (fun _ => 0))) := by rw [hu122]; exact (va_up_ne _ _ (Nat.ne_of_lt l_q103_q121)).trans f_q103
  replace f_q100 : u122 q100 = some (.inr (0, [.ref q103, .int (-1)])) := by rw [hu122]; exact (va_up_ne _ _ (Nat.ne_of_lt l_q100_q121)).trans f_q100
  replace f_q4 : u122 q4 = some (.inl (cs 3, 4, .inr (.inr (.inr (.inr (va_up (va_up (va_up (fun _ => none) 0 (some q32)) 1 (some q66)) 2 (some q100))))))) := by rw [hu122]; exact (va_up_ne _ _ (Nat.ne_of_lt l_q4_q121)).trans f_q4
  replace f_q110 : u122 q110 = some (.inl (cs 7, 12, .inr (.inr (.inr (.inr (fun _ => none)))))) := by rw [hu122]; exact (va_up_ne _ _ (Nat.ne_of_lt l_q110_q121)).trans f_q110
  replace f_q107 : u122 q107 = some (.inr (3, [.ref q110, .int (-1), .int 0])) := by rw [hu122]; exact (va_up_ne _ _ (Nat.ne_of_lt l_q107_q121)).trans f_q107
  replace f_q7 : u122 q7 = some (.inl (cs 4, 4, .inr (.inr (.inr (.inr (va_up (va_up (va_up (fun _ => none) 0 (some q39)) 1 (some q73)) 2 (some q107))))))) := by rw [hu122]; exact (va_up_ne _ _ (Nat.ne_of_lt l_q7_q121)).trans f_q7
  replace f_q117 : u122 q117 = some (.inl (cs 0, 144, .inl (fun _ => 0))) := by rw [hu122]; exact (va_up_ne _ _ (Nat.ne_of_lt l_q117_q121)).trans f_q117
  replace f_q114 : u122 q114 = some (.inr (1, [.ref q117, .int (-1), .int 0])) := by rw [hu122]; exact (va_up_ne _ _ (Nat.ne_of_lt l_q114_q121)).trans f_q114
  replace f_q10 : u122 q10 = some (.inl (cs 5, 4, .inr (.inr (.inr (.inr (va_up (va_up (va_up (fun _ => none) 0 (some q46)) 1 (some q80)) 2 (some q114))))))) := by rw [hu122]; exact (va_up_ne _ _ (Nat.ne_of_lt l_q10_q121)).trans f_q10
  have f_q121 : u122 q121 = some (.inr (2, [.null, .int 0])) := by rw [hu122]; exact va_up_self _ _ _
  refine lv_dup hx hb dX8_init_137 rfl ?_
  have m_q19 := hF.lt f_q19
  have m_q22 := hF.lt f_q22
  have m_h0 := hF.lt f_h0
  have m_q28 := hF.lt f_q28
  have m_q35 := hF.lt f_q35
  have m_q32 := hF.lt f_q32
  have m_q42 := hF.lt f_q42
  have m_q39 := hF.lt f_q39
  have m_q49 := hF.lt f_q49
  have m_q46 := hF.lt f_q46
  have m_q56 := hF.lt f_q56
  have m_q53 := hF.lt f_q53
  have m_q62 := hF.lt f_q62
  have m_q69 := hF.lt f_q69
  have m_q66 := hF.lt f_q66
  have m_q76 := hF.lt f_q76
  have m_q73 := hF.lt f_q73
  have m_q83 := hF.lt f_q83
  have m_q80 := hF.lt f_q80
  have m_q90 := hF.lt f_q90
  have m_q87 := hF.lt f_q87
  have m_q13 := hF.lt f_q13
  have m_q16 := hF.lt f_q16
  have m_q96 := hF.lt f_q96
  have m_q1 := hF.lt f_q1
  have m_q103 := hF.lt f_q103
  have m_q100 := hF.lt f_q100
  have m_q4 := hF.lt f_q4
  have m_q110 := hF.lt f_q110
  have m_q107 := hF.lt f_q107
  have m_q7 := hF.lt f_q7
  have m_q117 := hF.lt f_q117
  have m_q114 := hF.lt f_q114
  have m_q10 := hF.lt f_q10
  have m_q121 := hF.lt f_q121
  refine fw_callIN (As := []) (rest := [.ref q121, .int 2, .ref q13]) X bs_all nw_all mf_X2_init (c_X2_init l D cs _ _ q121 f_q121) nm_162 wm_163 rfl hF hS rfl ((⟨⟨Nat.le_of_ble_eq_true rfl, Nat.le_of_ble_eq_true rfl⟩, Nat.le_of_ble_eq_true rfl, Nat.le_of_ble_eq_true rfl⟩)) rfl hl.1 rfl (Nat.le_of_ble_eq_true rfl) dX8_init_138 (fun v u123 H locs hp hF hS hz1 hk1 hd1 => ?_)
  obtain ⟨hv1, q124, nq124, hw1⟩ := hp
  subst hv1
  have leq124 := (hd1 q124 (by rw [hw1, va_up_ne _ _ (Ne.symm (gx_ne f_q121 nq124)), va_up_self]; exact fun z => by cases z)).resolve_left (fun z => z nq124)
  have l_q19_q124 : q19 < q124 := Nat.lt_of_lt_of_le m_q19 leq124
  have l_q22_q124 : q22 < q124 := Nat.lt_of_lt_of_le m_q22 leq124
  have l_h0_q124 : h0 < q124 := Nat.lt_of_lt_of_le m_h0 leq124
  have l_q28_q124 : q28 < q124 := Nat.lt_of_lt_of_le m_q28 leq124
  have l_q35_q124 : q35 < q124 := Nat.lt_of_lt_of_le m_q35 leq124
  have l_q32_q124 : q32 < q124 := Nat.lt_of_lt_of_le m_q32 leq124
  have l_q42_q124 : q42 < q124 := Nat.lt_of_lt_of_le m_q42 leq124
  have l_q39_q124 : q39 < q124 := Nat.lt_of_lt_of_le m_q39 leq124
  have l_q49_q124 : q49 < q124 := Nat.lt_of_lt_of_le m_q49 leq124
  have l_q46_q124 : q46 < q124 := Nat.lt_of_lt_of_le m_q46 leq124
  have l_q56_q124 : q56 < q124 := Nat.lt_of_lt_of_le m_q56 leq124
  have l_q53_q124 : q53 < q124 := Nat.lt_of_lt_of_le m_q53 leq124
  have l_q62_q124 : q62 < q124 := Nat.lt_of_lt_of_le m_q62 leq124
  have l_q69_q124 : q69 < q124 := Nat.lt_of_lt_of_le m_q69 leq124
  have l_q66_q124 : q66 < q124 := Nat.lt_of_lt_of_le m_q66 leq124
  have l_q76_q124 : q76 < q124 := Nat.lt_of_lt_of_le m_q76 leq124
  have l_q73_q124 : q73 < q124 := Nat.lt_of_lt_of_le m_q73 leq124
  have l_q83_q124 : q83 < q124 := Nat.lt_of_lt_of_le m_q83 leq124
  have l_q80_q124 : q80 < q124 := Nat.lt_of_lt_of_le m_q80 leq124
  have l_q90_q124 : q90 < q124 := Nat.lt_of_lt_of_le m_q90 leq124
  have l_q87_q124 : q87 < q124 := Nat.lt_of_lt_of_le m_q87 leq124
  have l_q13_q124 : q13 < q124 := Nat.lt_of_lt_of_le m_q13 leq124
  have l_q16_q124 : q16 < q124 := Nat.lt_of_lt_of_le m_q16 leq124
  have l_q96_q124 : q96 < q124 := Nat.lt_of_lt_of_le m_q96 leq124
  have l_q1_q124 : q1 < q124 := Nat.lt_of_lt_of_le m_q1 leq124
  have l_q103_q124 : q103 < q124 := Nat.lt_of_lt_of_le m_q103 leq124
  have l_q100_q124 : q100 < q124 := Nat.lt_of_lt_of_le m_q100 leq124
  have l_q4_q124 : q4 < q124 := Nat.lt_of_lt_of_le m_q4 leq124
  have l_q110_q124 : q110 < q124 := Nat.lt_of_lt_of_le m_q110 leq124
  have l_q107_q124 : q107 < q124 := Nat.lt_of_lt_of_le m_q107 leq124
  have l_q7_q124 : q7 < q124 := Nat.lt_of_lt_of_le m_q7 leq124
  have l_q117_q124 : q117 < q124 := Nat.lt_of_lt_of_le m_q117 leq124
  have l_q114_q124 : q114 < q124 := Nat.lt_of_lt_of_le m_q114 leq124
  have l_q10_q124 : q10 < q124 := Nat.lt_of_lt_of_le m_q10 leq124
  have l_q121_q124 : q121 < q124 := Nat.lt_of_lt_of_le m_q121 leq124
  clear m_q19 m_q22 m_h0 m_q28 m_q35 m_q32 m_q42 m_q39 m_q49 m_q46 m_q56 m_q53 m_q62 m_q69 m_q66 m_q76 m_q73 m_q83 m_q80 m_q90 m_q87 m_q13 m_q16 m_q96 m_q1 m_q103 m_q100 m_q4 m_q110 m_q107 m_q7 m_q117 m_q114 m_q10 m_q121
  rw [hw1] at hF
  clear hw1 hd1 hk1
  obtain ⟨u125, hu125⟩ : ∃ y : fW, y = va_up u122 q124 (some (.inl (cs 8, 16, .inr (.inr (.inr (.inr (fun _ => none))))))) := ⟨_, rfl⟩
  rw [← hu125] at hF
  replace f_q19 : u125 q19 = some (.inl (cs 0, 8, .inl (fun _ => 0))) := by rw [hu125]; exact (va_up_ne _ _ (Nat.ne_of_lt l_q19_q124)).trans f_q19
  replace f_q22 : u125 q22 = some (.inr (4, [.int 0, .int 0, .int 0, .int (-1), .int 0, .long 0])) := by rw [hu125]; exact (va_up_ne _ _ (Nat.ne_of_lt l_q22_q124)).trans f_q22
  replace f_h0 : u125 h0 = some (.inr (8, [.ref q1, .ref q4, .ref q7, .ref q10, .ref q13, .ref q16, .ref q19, .ref q22])) := by rw [hu125]; exact (va_up_ne _ _ (Nat.ne_of_lt l_h0_q124)).trans f_h0
  replace f_q28 : u125 q28 = some (.inr (5, [.int 0, .int 0, .null, .null, .int 0, .int 0])) := by rw [hu125]; exact (va_up_ne _ _ (Nat.ne_of_lt l_q28_q124)).trans f_q28
  replace f_q35 : u125 q35 = some (.inl (cs 0, 12, .inl (fun _ => 0))) := by rw [hu125]; exact (va_up_ne _ _ (Nat.ne_of_lt l_q35_q124)).trans f_q35
  replace f_q32 : u125 q32 = some (.inr (0, [.ref q35, .int (-1)])) := by rw [hu125]; exact (va_up_ne _ _ (Nat.ne_of_lt l_q32_q124)).trans f_q32
  replace f_q42 : u125 q42 = some (.inl (cs 7, 12, .inr (.inr (.inr (.inr (fun _ => none)))))) := by rw [hu125]; exact (va_up_ne _ _ (Nat.ne_of_lt l_q42_q124)).trans f_q42
  replace f_q39 : u125 q39 = some (.inr (3, [.ref q42, .int (-1), .int 0])) := by rw [hu125]; exact (va_up_ne _ _ (Nat.ne_of_lt l_q39_q124)).trans f_q39
  replace f_q49 : u125 q49 = some (.inl (cs 0, 144, .inl (fun _ => 0))) := by rw [hu125]; exact (va_up_ne _ _ (Nat.ne_of_lt l_q49_q124)).trans f_q49
  replace f_q46 : u125 q46 = some (.inr (1, [.ref q49, .int (-1), .int 0])) := by rw [hu125]; exact (va_up_ne _ _ (Nat.ne_of_lt l_q46_q124)).trans f_q46
  replace f_q56 : u125 q56 = some (.inl (cs 8, 16, .inr (.inr (.inr (.inr (fun _ => none)))))) := by rw [hu125]; exact (va_up_ne _ _ (Nat.ne_of_lt l_q56_q124)).trans f_q56
  replace f_q53 : u125 q53 = some (.inr (2, [.ref q56, .int 0])) := by rw [hu125]; exact (va_up_ne _ _ (Nat.ne_of_lt l_q53_q124)).trans f_q53
  replace f_q62 : u125 q62 = some (.inr (5, [.int 0, .int 0, .null, .null, .int 0, .int 0])) := by rw [hu125]; exact (va_up_ne _ _ (Nat.ne_of_lt l_q62_q124)).trans f_q62
  replace f_q69 : u125 q69 = some (.inl (cs 0, 12, .inl (fun _ => 0))) := by rw [hu125]; exact (va_up_ne _ _ (Nat.ne_of_lt l_q69_q124)).trans f_q69
  replace f_q66 : u125 q66 = some (.inr (0, [.ref q69, .int (-1)])) := by rw [hu125]; exact (va_up_ne _ _ (Nat.ne_of_lt l_q66_q124)).trans f_q66
  replace f_q76 : u125 q76 = some (.inl (cs 7, 12, .inr (.inr (.inr (.inr (fun _ => none)))))) := by rw [hu125]; exact (va_up_ne _ _ (Nat.ne_of_lt l_q76_q124)).trans f_q76
  replace f_q73 : u125 q73 = some (.inr (3, [.ref q76, .int (-1), .int 0])) := by rw [hu125]; exact (va_up_ne _ _ (Nat.ne_of_lt l_q73_q124)).trans f_q73
  replace f_q83 : u125 q83 = some (.inl (cs 0, 144, .inl (fun _ => 0))) := by rw [hu125]; exact (va_up_ne _ _ (Nat.ne_of_lt l_q83_q124)).trans f_q83
  replace f_q80 : u125 q80 = some (.inr (1, [.ref q83, .int (-1), .int 0])) := by rw [hu125]; exact (va_up_ne _ _ (Nat.ne_of_lt l_q80_q124)).trans f_q80
  replace f_q90 : u125 q90 = some (.inl (cs 8, 16, .inr (.inr (.inr (.inr (fun _ => none)))))) := by rw [hu125]; exact (va_up_ne _ _ (Nat.ne_of_lt l_q90_q124)).trans f_q90
  replace f_q87 : u125 q87 = some (.inr (2, [.ref q90, .int 0])) := by rw [hu125]; exact (va_up_ne _ _ (Nat.ne_of_lt l_q87_q124)).trans f_q87
  replace f_q13 : u125 q13 = some (.inl (cs 6, 4, .inr (.inr (.inr (.inr (va_up (va_up (fun _ => none) 0 (some q53)) 1 (some q87))))))) := by rw [hu125]; exact (va_up_ne _ _ (Nat.ne_of_lt l_q13_q124)).trans f_q13
  replace f_q16 : u125 q16 = some (.inl (cs 0, 4, .inl (upd (upd (fun _ => 0) 0 1) 1 1))) := by rw [hu125]; exact (va_up_ne _ _ (Nat.ne_of_lt l_q16_q124)).trans f_q16
  replace f_q96 : u125 q96 = some (.inr (5, [.int 0, .int 0, .null, .null, .int 0, .int 0])) := by rw [hu125]; exact (va_up_ne _ _ (Nat.ne_of_lt l_q96_q124)).trans f_q96
  replace f_q1 : u125 q1 = some (.inl (cs 2, 4, .inr (.inr (.inr (.inr (va_up (va_up (va_up (fun _ => none) 0 (some q28)) 1 (some q62)) 2 (some q96))))))) := by rw [hu125]; exact (va_up_ne _ _ (Nat.ne_of_lt l_q1_q124)).trans f_q1
  replace f_q103 : u125 q103 = some (.inl (cs 0, 12, .inl (fun _ => 0))) := by rw [hu125]; exact (va_up_ne _ _ (Nat.ne_of_lt l_q103_q124)).trans f_q103
  replace f_q100 : u125 q100 = some (.inr (0, [.ref q103, .int (-1)])) := by rw [hu125]; exact (va_up_ne _ _ (Nat.ne_of_lt l_q100_q124)).trans f_q100
  replace f_q4 : u125 q4 = some (.inl (cs 3, 4, .inr (.inr (.inr (.inr (va_up (va_up (va_up (fun _ => none) 0 (some q32)) 1 (some q66)) 2 (some q100))))))) := by rw [hu125]; exact (va_up_ne _ _ (Nat.ne_of_lt l_q4_q124)).trans f_q4
  replace f_q110 : u125 q110 = some (.inl (cs 7, 12, .inr (.inr (.inr (.inr (fun _ => none)))))) := by rw [hu125]; exact (va_up_ne _ _ (Nat.ne_of_lt l_q110_q124)).trans f_q110
  replace f_q107 : u125 q107 = some (.inr (3, [.ref q110, .int (-1), .int 0])) := by rw [hu125]; exact (va_up_ne _ _ (Nat.ne_of_lt l_q107_q124)).trans f_q107
  replace f_q7 : u125 q7 = some (.inl (cs 4, 4, .inr (.inr (.inr (.inr (va_up (va_up (va_up (fun _ => none) 0 (some q39)) 1 (some q73)) 2 (some q107))))))) := by rw [hu125]; exact (va_up_ne _ _ (Nat.ne_of_lt l_q7_q124)).trans f_q7
  replace f_q117 : u125 q117 = some (.inl (cs 0, 144, .inl (fun _ => 0))) := by rw [hu125]; exact (va_up_ne _ _ (Nat.ne_of_lt l_q117_q124)).trans f_q117
  replace f_q114 : u125 q114 = some (.inr (1, [.ref q117, .int (-1), .int 0])) := by rw [hu125]; exact (va_up_ne _ _ (Nat.ne_of_lt l_q114_q124)).trans f_q114
  replace f_q10 : u125 q10 = some (.inl (cs 5, 4, .inr (.inr (.inr (.inr (va_up (va_up (va_up (fun _ => none) 0 (some q46)) 1 (some q80)) 2 (some q114))))))) := by rw [hu125]; exact (va_up_ne _ _ (Nat.ne_of_lt l_q10_q124)).trans f_q10
  replace f_q121 : u125 q121 = some (.inr (2, [.null, .int 0])) := by rw [hu125]; exact (va_up_ne _ _ (Nat.ne_of_lt l_q121_q124)).trans f_q121
  have f_q124 : u125 q124 = some (.inl (cs 8, 16, .inr (.inr (.inr (.inr (fun _ => none)))))) := by rw [hu125]; exact va_up_self _ _ _
  obtain ⟨u126, hu126⟩ : ∃ y : fW, y = va_up u125 q121 (some (.inr (2, [.ref q124, .int 0]))) := ⟨_, rfl⟩
  rw [← hu126] at hF
  replace f_q19 : u126 q19 = some (.inl (cs 0, 8, .inl (fun _ => 0))) := by rw [hu126]; exact (va_up_ne _ _ (Nat.ne_of_lt l_q19_q121)).trans f_q19
  replace f_q22 : u126 q22 = some (.inr (4, [.int 0, .int 0, .int 0, .int (-1), .int 0, .long 0])) := by rw [hu126]; exact (va_up_ne _ _ (Nat.ne_of_lt l_q22_q121)).trans f_q22
  replace f_h0 : u126 h0 = some (.inr (8, [.ref q1, .ref q4, .ref q7, .ref q10, .ref q13, .ref q16, .ref q19, .ref q22])) := by rw [hu126]; exact (va_up_ne _ _ (Nat.ne_of_lt l_h0_q121)).trans f_h0
  replace f_q28 : u126 q28 = some (.inr (5, [.int 0, .int 0, .null, .null, .int 0, .int 0])) := by rw [hu126]; exact (va_up_ne _ _ (Nat.ne_of_lt l_q28_q121)).trans f_q28
  replace f_q35 : u126 q35 = some (.inl (cs 0, 12, .inl (fun _ => 0))) := by rw [hu126]; exact (va_up_ne _ _ (Nat.ne_of_lt l_q35_q121)).trans f_q35
  replace f_q32 : u126 q32 = some (.inr (0, [.ref q35, .int (-1)])) := by rw [hu126]; exact (va_up_ne _ _ (Nat.ne_of_lt l_q32_q121)).trans f_q32
  replace f_q42 : u126 q42 = some (.inl (cs 7, 12, .inr (.inr (.inr (.inr (fun _ => none)))))) := by rw [hu126]; exact (va_up_ne _ _ (Nat.ne_of_lt l_q42_q121)).trans f_q42
  replace f_q39 : u126 q39 = some (.inr (3, [.ref q42, .int (-1), .int 0])) := by rw [hu126]; exact (va_up_ne _ _ (Nat.ne_of_lt l_q39_q121)).trans f_q39
  replace f_q49 : u126 q49 = some (.inl (cs 0, 144, .inl (fun _ => 0))) := by rw [hu126]; exact (va_up_ne _ _ (Nat.ne_of_lt l_q49_q121)).trans f_q49
  replace f_q46 : u126 q46 = some (.inr (1, [.ref q49, .int (-1), .int 0])) := by rw [hu126]; exact (va_up_ne _ _ (Nat.ne_of_lt l_q46_q121)).trans f_q46
  replace f_q56 : u126 q56 = some (.inl (cs 8, 16, .inr (.inr (.inr (.inr (fun _ => none)))))) := by rw [hu126]; exact (va_up_ne _ _ (Nat.ne_of_lt l_q56_q121)).trans f_q56
  replace f_q53 : u126 q53 = some (.inr (2, [.ref q56, .int 0])) := by rw [hu126]; exact (va_up_ne _ _ (Nat.ne_of_lt l_q53_q121)).trans f_q53
  replace f_q62 : u126 q62 = some (.inr (5, [.int 0, .int 0, .null, .null, .int 0, .int 0])) := by rw [hu126]; exact (va_up_ne _ _ (Nat.ne_of_lt l_q62_q121)).trans f_q62
  replace f_q69 : u126 q69 = some (.inl (cs 0, 12, .inl (fun _ => 0))) := by rw [hu126]; exact (va_up_ne _ _ (Nat.ne_of_lt l_q69_q121)).trans f_q69
  replace f_q66 : u126 q66 = some (.inr (0, [.ref q69, .int (-1)])) := by rw [hu126]; exact (va_up_ne _ _ (Nat.ne_of_lt l_q66_q121)).trans f_q66
  replace f_q76 : u126 q76 = some (.inl (cs 7, 12, .inr (.inr (.inr (.inr (fun _ => none)))))) := by rw [hu126]; exact (va_up_ne _ _ (Nat.ne_of_lt l_q76_q121)).trans f_q76
  replace f_q73 : u126 q73 = some (.inr (3, [.ref q76, .int (-1), .int 0])) := by rw [hu126]; exact (va_up_ne _ _ (Nat.ne_of_lt l_q73_q121)).trans f_q73
  replace f_q83 : u126 q83 = some (.inl (cs 0, 144, .inl (fun _ => 0))) := by rw [hu126]; exact (va_up_ne _ _ (Nat.ne_of_lt l_q83_q121)).trans f_q83
  replace f_q80 : u126 q80 = some (.inr (1, [.ref q83, .int (-1), .int 0])) := by rw [hu126]; exact (va_up_ne _ _ (Nat.ne_of_lt l_q80_q121)).trans f_q80
  replace f_q90 : u126 q90 = some (.inl (cs 8, 16, .inr (.inr (.inr (.inr (fun _ => none)))))) := by rw [hu126]; exact (va_up_ne _ _ (Nat.ne_of_lt l_q90_q121)).trans f_q90
  replace f_q87 : u126 q87 = some (.inr (2, [.ref q90, .int 0])) := by rw [hu126]; exact (va_up_ne _ _ (Nat.ne_of_lt l_q87_q121)).trans f_q87
  replace f_q13 : u126 q13 = some (.inl (cs 6, 4, .inr (.inr (.inr (.inr (va_up (va_up (fun _ => none) 0 (some q53)) 1 (some q87))))))) := by rw [hu126]; exact (va_up_ne _ _ (Nat.ne_of_lt l_q13_q121)).trans f_q13
  replace f_q16 : u126 q16 = some (.inl (cs 0, 4, .inl (upd (upd (fun _ => 0) 0 1) 1 1))) := by rw [hu126]; exact (va_up_ne _ _ (Nat.ne_of_lt l_q16_q121)).trans f_q16
  replace f_q96 : u126 q96 = some (.inr (5, [.int 0, .int 0, .null, .null, .int 0, .int 0])) := by rw [hu126]; exact (va_up_ne _ _ (Nat.ne_of_lt l_q96_q121)).trans f_q96
  replace f_q1 : u126 q1 = some (.inl (cs 2, 4, .inr (.inr (.inr (.inr (va_up (va_up (va_up (fun _ => none) 0 (some q28)) 1 (some q62)) 2 (some q96))))))) := by rw [hu126]; exact (va_up_ne _ _ (Nat.ne_of_lt l_q1_q121)).trans f_q1
  replace f_q103 : u126 q103 = some (.inl (cs 0, 12, .inl (fun _ => 0))) := by rw [hu126]; exact (va_up_ne _ _ (Nat.ne_of_lt l_q103_q121)).trans f_q103
  replace f_q100 : u126 q100 = some (.inr (0, [.ref q103, .int (-1)])) := by rw [hu126]; exact (va_up_ne _ _ (Nat.ne_of_lt l_q100_q121)).trans f_q100
  replace f_q4 : u126 q4 = some (.inl (cs 3, 4, .inr (.inr (.inr (.inr (va_up (va_up (va_up (fun _ => none) 0 (some q32)) 1 (some q66)) 2 (some q100))))))) := by rw [hu126]; exact (va_up_ne _ _ (Nat.ne_of_lt l_q4_q121)).trans f_q4
  replace f_q110 : u126 q110 = some (.inl (cs 7, 12, .inr (.inr (.inr (.inr (fun _ => none)))))) := by rw [hu126]; exact (va_up_ne _ _ (Nat.ne_of_lt l_q110_q121)).trans f_q110
  replace f_q107 : u126 q107 = some (.inr (3, [.ref q110, .int (-1), .int 0])) := by rw [hu126]; exact (va_up_ne _ _ (Nat.ne_of_lt l_q107_q121)).trans f_q107
  replace f_q7 : u126 q7 = some (.inl (cs 4, 4, .inr (.inr (.inr (.inr (va_up (va_up (va_up (fun _ => none) 0 (some q39)) 1 (some q73)) 2 (some q107))))))) := by rw [hu126]; exact (va_up_ne _ _ (Nat.ne_of_lt l_q7_q121)).trans f_q7
  replace f_q117 : u126 q117 = some (.inl (cs 0, 144, .inl (fun _ => 0))) := by rw [hu126]; exact (va_up_ne _ _ (Nat.ne_of_lt l_q117_q121)).trans f_q117
  replace f_q114 : u126 q114 = some (.inr (1, [.ref q117, .int (-1), .int 0])) := by rw [hu126]; exact (va_up_ne _ _ (Nat.ne_of_lt l_q114_q121)).trans f_q114
  replace f_q10 : u126 q10 = some (.inl (cs 5, 4, .inr (.inr (.inr (.inr (va_up (va_up (va_up (fun _ => none) 0 (some q46)) 1 (some q80)) 2 (some q114))))))) := by rw [hu126]; exact (va_up_ne _ _ (Nat.ne_of_lt l_q10_q121)).trans f_q10
  replace f_q124 : u126 q124 = some (.inl (cs 8, 16, .inr (.inr (.inr (.inr (fun _ => none)))))) := by rw [hu126]; exact (va_up_ne _ _ (Nat.ne_of_gt l_q121_q124)).trans f_q124
  replace f_q121 : u126 q121 = some (.inr (2, [.ref q124, .int 0])) := by rw [hu126]; exact va_up_self _ _ _
  refine W.eq (g2 := F0 m 141 ls [.ref q121, .int 2, .ref q13]) rfl ?_
  refine fw_astq X hF hS f_q13 6 rfl f_q121 rfl (vp_in_iff.mpr (by decide)) dX8_init_141 (fun H locs hF hS => ?_)
  have hF : fw_P D cls10 A (va_up u126 q13 (some (.inl (cs 6, 4, .inr (.inr (.inr (.inr (va_up (va_up (va_up (fun _ => none) 0 (some q53)) 1 (some q87)) 2 (some q121))))))))) H := hF
  obtain ⟨u127, hu127⟩ : ∃ y : fW, y = va_up u126 q13 (some (.inl (cs 6, 4, .inr (.inr (.inr (.inr (va_up (va_up (va_up (fun _ => none) 0 (some q53)) 1 (some q87)) 2 (some q121)))))))) := ⟨_, rfl⟩
  rw [← hu127] at hF
  replace f_q19 : u127 q19 = some (.inl (cs 0, 8, .inl (fun _ => 0))) := by rw [hu127]; exact (va_up_ne _ _ (Nat.ne_of_gt l_q13_q19)).trans f_q19
  replace f_q22 : u127 q22 = some (.inr (4, [.int 0, .int 0, .int 0, .int (-1), .int 0, .long 0])) := by rw [hu127]; exact (va_up_ne _ _ (Nat.ne_of_gt l_q13_q22)).trans f_q22
  replace f_h0 : u127 h0 = some (.inr (8, [.ref q1, .ref q4, .ref q7, .ref q10, .ref q13, .ref q16, .ref q19, .ref q22])) := by rw [hu127]; exact (va_up_ne _ _ (Nat.ne_of_lt l_h0_q13)).trans f_h0
  replace f_q28 : u127 q28 = some (.inr (5, [.int 0, .int 0, .null, .null, .int 0, .int 0])) := by rw [hu127]; exact (va_up_ne _ _ (Nat.ne_of_gt l_q13_q28)).trans f_q28
  replace f_q35 : u127 q35 = some (.inl (cs 0, 12, .inl (fun _ => 0))) := by rw [hu127]; exact (va_up_ne _ _ (Nat.ne_of_gt l_q13_q35)).trans f_q35
  replace f_q32 : u127 q32 = some (.inr (0, [.ref q35, .int (-1)])) := by rw [hu127]; exact (va_up_ne _ _ (Nat.ne_of_gt l_q13_q32)).trans f_q32
  replace f_q42 : u127 q42 = some (.inl (cs 7, 12, .inr (.inr (.inr (.inr (fun _ => none)))))) := by rw [hu127]; exact (va_up_ne _ _ (Nat.ne_of_gt l_q13_q42)).trans f_q42
  replace f_q39 : u127 q39 = some (.inr (3, [.ref q42, .int (-1), .int 0])) := by rw [hu127]; exact (va_up_ne _ _ (Nat.ne_of_gt l_q13_q39)).trans f_q39
  replace f_q49 : u127 q49 = some (.inl (cs 0, 144, .inl (fun _ => 0))) := by rw [hu127]; exact (va_up_ne _ _ (Nat.ne_of_gt l_q13_q49)).trans f_q49
  replace f_q46 : u127 q46 = some (.inr (1, [.ref q49, .int (-1), .int 0])) := by rw [hu127]; exact (va_up_ne _ _ (Nat.ne_of_gt l_q13_q46)).trans f_q46
  replace f_q56 : u127 q56 = some (.inl (cs 8, 16, .inr (.inr (.inr (.inr (fun _ => none)))))) := by rw [hu127]; exact (va_up_ne _ _ (Nat.ne_of_gt l_q13_q56)).trans f_q56
  replace f_q53 : u127 q53 = some (.inr (2, [.ref q56, .int 0])) := by rw [hu127]; exact (va_up_ne _ _ (Nat.ne_of_gt l_q13_q53)).trans f_q53
  replace f_q62 : u127 q62 = some (.inr (5, [.int 0, .int 0, .null, .null, .int 0, .int 0])) := by rw [hu127]; exact (va_up_ne _ _ (Nat.ne_of_gt l_q13_q62)).trans f_q62
  replace f_q69 : u127 q69 = some (.inl (cs 0, 12, .inl (fun _ => 0))) := by rw [hu127]; exact (va_up_ne _ _ (Nat.ne_of_gt l_q13_q69)).trans f_q69
  replace f_q66 : u127 q66 = some (.inr (0, [.ref q69, .int (-1)])) := by rw [hu127]; exact (va_up_ne _ _ (Nat.ne_of_gt l_q13_q66)).trans f_q66
  replace f_q76 : u127 q76 = some (.inl (cs 7, 12, .inr (.inr (.inr (.inr (fun _ => none)))))) := by rw [hu127]; exact (va_up_ne _ _ (Nat.ne_of_gt l_q13_q76)).trans f_q76
  replace f_q73 : u127 q73 = some (.inr (3, [.ref q76, .int (-1), .int 0])) := by rw [hu127]; exact (va_up_ne _ _ (Nat.ne_of_gt l_q13_q73)).trans f_q73
  replace f_q83 : u127 q83 = some (.inl (cs 0, 144, .inl (fun _ => 0))) := by rw [hu127]; exact (va_up_ne _ _ (Nat.ne_of_gt l_q13_q83)).trans f_q83
  replace f_q80 : u127 q80 = some (.inr (1, [.ref q83, .int (-1), .int 0])) := by rw [hu127]; exact (va_up_ne _ _ (Nat.ne_of_gt l_q13_q80)).trans f_q80
  replace f_q90 : u127 q90 = some (.inl (cs 8, 16, .inr (.inr (.inr (.inr (fun _ => none)))))) := by rw [hu127]; exact (va_up_ne _ _ (Nat.ne_of_gt l_q13_q90)).trans f_q90
  replace f_q87 : u127 q87 = some (.inr (2, [.ref q90, .int 0])) := by rw [hu127]; exact (va_up_ne _ _ (Nat.ne_of_gt l_q13_q87)).trans f_q87
  replace f_q16 : u127 q16 = some (.inl (cs 0, 4, .inl (upd (upd (fun _ => 0) 0 1) 1 1))) := by rw [hu127]; exact (va_up_ne _ _ (Nat.ne_of_gt l_q13_q16)).trans f_q16
  replace f_q96 : u127 q96 = some (.inr (5, [.int 0, .int 0, .null, .null, .int 0, .int 0])) := by rw [hu127]; exact (va_up_ne _ _ (Nat.ne_of_gt l_q13_q96)).trans f_q96
  replace f_q1 : u127 q1 = some (.inl (cs 2, 4, .inr (.inr (.inr (.inr (va_up (va_up (va_up (fun _ => none) 0 (some q28)) 1 (some q62)) 2 (some q96))))))) := by rw [hu127]; exact (va_up_ne _ _ (Nat.ne_of_lt l_q1_q13)).trans f_q1
  replace f_q103 : u127 q103 = some (.inl (cs 0, 12, .inl (fun _ => 0))) := by rw [hu127]; exact (va_up_ne _ _ (Nat.ne_of_gt l_q13_q103)).trans f_q103
  replace f_q100 : u127 q100 = some (.inr (0, [.ref q103, .int (-1)])) := by rw [hu127]; exact (va_up_ne _ _ (Nat.ne_of_gt l_q13_q100)).trans f_q100
  replace f_q4 : u127 q4 = some (.inl (cs 3, 4, .inr (.inr (.inr (.inr (va_up (va_up (va_up (fun _ => none) 0 (some q32)) 1 (some q66)) 2 (some q100))))))) := by rw [hu127]; exact (va_up_ne _ _ (Nat.ne_of_lt l_q4_q13)).trans f_q4
  replace f_q110 : u127 q110 = some (.inl (cs 7, 12, .inr (.inr (.inr (.inr (fun _ => none)))))) := by rw [hu127]; exact (va_up_ne _ _ (Nat.ne_of_gt l_q13_q110)).trans f_q110
  replace f_q107 : u127 q107 = some (.inr (3, [.ref q110, .int (-1), .int 0])) := by rw [hu127]; exact (va_up_ne _ _ (Nat.ne_of_gt l_q13_q107)).trans f_q107
  replace f_q7 : u127 q7 = some (.inl (cs 4, 4, .inr (.inr (.inr (.inr (va_up (va_up (va_up (fun _ => none) 0 (some q39)) 1 (some q73)) 2 (some q107))))))) := by rw [hu127]; exact (va_up_ne _ _ (Nat.ne_of_lt l_q7_q13)).trans f_q7
  replace f_q117 : u127 q117 = some (.inl (cs 0, 144, .inl (fun _ => 0))) := by rw [hu127]; exact (va_up_ne _ _ (Nat.ne_of_gt l_q13_q117)).trans f_q117
  replace f_q114 : u127 q114 = some (.inr (1, [.ref q117, .int (-1), .int 0])) := by rw [hu127]; exact (va_up_ne _ _ (Nat.ne_of_gt l_q13_q114)).trans f_q114
  replace f_q10 : u127 q10 = some (.inl (cs 5, 4, .inr (.inr (.inr (.inr (va_up (va_up (va_up (fun _ => none) 0 (some q46)) 1 (some q80)) 2 (some q114))))))) := by rw [hu127]; exact (va_up_ne _ _ (Nat.ne_of_lt l_q10_q13)).trans f_q10
  replace f_q124 : u127 q124 = some (.inl (cs 8, 16, .inr (.inr (.inr (.inr (fun _ => none)))))) := by rw [hu127]; exact (va_up_ne _ _ (Nat.ne_of_gt l_q13_q124)).trans f_q124
  replace f_q121 : u127 q121 = some (.inr (2, [.ref q124, .int 0])) := by rw [hu127]; exact (va_up_ne _ _ (Nat.ne_of_gt l_q13_q121)).trans f_q121
  replace f_q13 : u127 q13 = some (.inl (cs 6, 4, .inr (.inr (.inr (.inr (va_up (va_up (va_up (fun _ => none) 0 (some q53)) 1 (some q87)) 2 (some q121))))))) := by rw [hu127]; exact va_up_self _ _ _
  refine lv_aload_n hx hb dX8_init_142 rfl (lv_at hl 1 rfl) ?_
  refine fw_get X gC_ok hF f_h0 rfl 5 (by decide) wm_181 rfl dX8_init_143 ?_
  refine lv_iload_n hx hb dX8_init_146 rfl (lv_at hl 0 rfl) ?_
  refine lv_iconst (v := 1) hx hb dX8_init_147 (by decide) ?_
  refine fw_iast X hF hS f_q16 0 rfl (vp_in_iff.mpr (by decide)) dX8_init_148 (fun H locs hF hS => ?_)
  have hF : fw_P D cls10 A (va_up u127 q16 (some (.inl (cs 0, 4, .inl (upd (upd (upd (fun _ => 0) 0 1) 1 1) 2 1))))) H := hF
  obtain ⟨u128, hu128⟩ : ∃ y : fW, y = va_up u127 q16 (some (.inl (cs 0, 4, .inl (upd (upd (upd (fun _ => 0) 0 1) 1 1) 2 1)))) := ⟨_, rfl⟩
  rw [← hu128] at hF
  replace f_q19 : u128 q19 = some (.inl (cs 0, 8, .inl (fun _ => 0))) := by rw [hu128]; exact (va_up_ne _ _ (Nat.ne_of_gt l_q16_q19)).trans f_q19
  replace f_q22 : u128 q22 = some (.inr (4, [.int 0, .int 0, .int 0, .int (-1), .int 0, .long 0])) := by rw [hu128]; exact (va_up_ne _ _ (Nat.ne_of_gt l_q16_q22)).trans f_q22
  replace f_h0 : u128 h0 = some (.inr (8, [.ref q1, .ref q4, .ref q7, .ref q10, .ref q13, .ref q16, .ref q19, .ref q22])) := by rw [hu128]; exact (va_up_ne _ _ (Nat.ne_of_lt l_h0_q16)).trans f_h0
  replace f_q28 : u128 q28 = some (.inr (5, [.int 0, .int 0, .null, .null, .int 0, .int 0])) := by rw [hu128]; exact (va_up_ne _ _ (Nat.ne_of_gt l_q16_q28)).trans f_q28
  replace f_q35 : u128 q35 = some (.inl (cs 0, 12, .inl (fun _ => 0))) := by rw [hu128]; exact (va_up_ne _ _ (Nat.ne_of_gt l_q16_q35)).trans f_q35
  replace f_q32 : u128 q32 = some (.inr (0, [.ref q35, .int (-1)])) := by rw [hu128]; exact (va_up_ne _ _ (Nat.ne_of_gt l_q16_q32)).trans f_q32
  replace f_q42 : u128 q42 = some (.inl (cs 7, 12, .inr (.inr (.inr (.inr (fun _ => none)))))) := by rw [hu128]; exact (va_up_ne _ _ (Nat.ne_of_gt l_q16_q42)).trans f_q42
  replace f_q39 : u128 q39 = some (.inr (3, [.ref q42, .int (-1), .int 0])) := by rw [hu128]; exact (va_up_ne _ _ (Nat.ne_of_gt l_q16_q39)).trans f_q39
  replace f_q49 : u128 q49 = some (.inl (cs 0, 144, .inl (fun _ => 0))) := by rw [hu128]; exact (va_up_ne _ _ (Nat.ne_of_gt l_q16_q49)).trans f_q49
  replace f_q46 : u128 q46 = some (.inr (1, [.ref q49, .int (-1), .int 0])) := by rw [hu128]; exact (va_up_ne _ _ (Nat.ne_of_gt l_q16_q46)).trans f_q46
  replace f_q56 : u128 q56 = some (.inl (cs 8, 16, .inr (.inr (.inr (.inr (fun _ => none)))))) := by rw [hu128]; exact (va_up_ne _ _ (Nat.ne_of_gt l_q16_q56)).trans f_q56
  replace f_q53 : u128 q53 = some (.inr (2, [.ref q56, .int 0])) := by rw [hu128]; exact (va_up_ne _ _ (Nat.ne_of_gt l_q16_q53)).trans f_q53
  replace f_q62 : u128 q62 = some (.inr (5, [.int 0, .int 0, .null, .null, .int 0, .int 0])) := by rw [hu128]; exact (va_up_ne _ _ (Nat.ne_of_gt l_q16_q62)).trans f_q62
  replace f_q69 : u128 q69 = some (.inl (cs 0, 12, .inl (fun _ => 0))) := by rw [hu128]; exact (va_up_ne _ _ (Nat.ne_of_gt l_q16_q69)).trans f_q69
  replace f_q66 : u128 q66 = some (.inr (0, [.ref q69, .int (-1)])) := by rw [hu128]; exact (va_up_ne _ _ (Nat.ne_of_gt l_q16_q66)).trans f_q66
  replace f_q76 : u128 q76 = some (.inl (cs 7, 12, .inr (.inr (.inr (.inr (fun _ => none)))))) := by rw [hu128]; exact (va_up_ne _ _ (Nat.ne_of_gt l_q16_q76)).trans f_q76
  replace f_q73 : u128 q73 = some (.inr (3, [.ref q76, .int (-1), .int 0])) := by rw [hu128]; exact (va_up_ne _ _ (Nat.ne_of_gt l_q16_q73)).trans f_q73
  replace f_q83 : u128 q83 = some (.inl (cs 0, 144, .inl (fun _ => 0))) := by rw [hu128]; exact (va_up_ne _ _ (Nat.ne_of_gt l_q16_q83)).trans f_q83
  replace f_q80 : u128 q80 = some (.inr (1, [.ref q83, .int (-1), .int 0])) := by rw [hu128]; exact (va_up_ne _ _ (Nat.ne_of_gt l_q16_q80)).trans f_q80
  replace f_q90 : u128 q90 = some (.inl (cs 8, 16, .inr (.inr (.inr (.inr (fun _ => none)))))) := by rw [hu128]; exact (va_up_ne _ _ (Nat.ne_of_gt l_q16_q90)).trans f_q90
  replace f_q87 : u128 q87 = some (.inr (2, [.ref q90, .int 0])) := by rw [hu128]; exact (va_up_ne _ _ (Nat.ne_of_gt l_q16_q87)).trans f_q87
  replace f_q96 : u128 q96 = some (.inr (5, [.int 0, .int 0, .null, .null, .int 0, .int 0])) := by rw [hu128]; exact (va_up_ne _ _ (Nat.ne_of_gt l_q16_q96)).trans f_q96
  replace f_q1 : u128 q1 = some (.inl (cs 2, 4, .inr (.inr (.inr (.inr (va_up (va_up (va_up (fun _ => none) 0 (some q28)) 1 (some q62)) 2 (some q96))))))) := by rw [hu128]; exact (va_up_ne _ _ (Nat.ne_of_lt l_q1_q16)).trans f_q1
  replace f_q103 : u128 q103 = some (.inl (cs 0, 12, .inl (fun _ => 0))) := by rw [hu128]; exact (va_up_ne _ _ (Nat.ne_of_gt l_q16_q103)).trans f_q103
  replace f_q100 : u128 q100 = some (.inr (0, [.ref q103, .int (-1)])) := by rw [hu128]; exact (va_up_ne _ _ (Nat.ne_of_gt l_q16_q100)).trans f_q100
  replace f_q4 : u128 q4 = some (.inl (cs 3, 4, .inr (.inr (.inr (.inr (va_up (va_up (va_up (fun _ => none) 0 (some q32)) 1 (some q66)) 2 (some q100))))))) := by rw [hu128]; exact (va_up_ne _ _ (Nat.ne_of_lt l_q4_q16)).trans f_q4
  replace f_q110 : u128 q110 = some (.inl (cs 7, 12, .inr (.inr (.inr (.inr (fun _ => none)))))) := by rw [hu128]; exact (va_up_ne _ _ (Nat.ne_of_gt l_q16_q110)).trans f_q110
  replace f_q107 : u128 q107 = some (.inr (3, [.ref q110, .int (-1), .int 0])) := by rw [hu128]; exact (va_up_ne _ _ (Nat.ne_of_gt l_q16_q107)).trans f_q107
  replace f_q7 : u128 q7 = some (.inl (cs 4, 4, .inr (.inr (.inr (.inr (va_up (va_up (va_up (fun _ => none) 0 (some q39)) 1 (some q73)) 2 (some q107))))))) := by rw [hu128]; exact (va_up_ne _ _ (Nat.ne_of_lt l_q7_q16)).trans f_q7
  replace f_q117 : u128 q117 = some (.inl (cs 0, 144, .inl (fun _ => 0))) := by rw [hu128]; exact (va_up_ne _ _ (Nat.ne_of_gt l_q16_q117)).trans f_q117
  replace f_q114 : u128 q114 = some (.inr (1, [.ref q117, .int (-1), .int 0])) := by rw [hu128]; exact (va_up_ne _ _ (Nat.ne_of_gt l_q16_q114)).trans f_q114
  replace f_q10 : u128 q10 = some (.inl (cs 5, 4, .inr (.inr (.inr (.inr (va_up (va_up (va_up (fun _ => none) 0 (some q46)) 1 (some q80)) 2 (some q114))))))) := by rw [hu128]; exact (va_up_ne _ _ (Nat.ne_of_lt l_q10_q16)).trans f_q10
  replace f_q124 : u128 q124 = some (.inl (cs 8, 16, .inr (.inr (.inr (.inr (fun _ => none)))))) := by rw [hu128]; exact (va_up_ne _ _ (Nat.ne_of_gt l_q16_q124)).trans f_q124
  replace f_q121 : u128 q121 = some (.inr (2, [.ref q124, .int 0])) := by rw [hu128]; exact (va_up_ne _ _ (Nat.ne_of_gt l_q16_q121)).trans f_q121
  replace f_q13 : u128 q13 = some (.inl (cs 6, 4, .inr (.inr (.inr (.inr (va_up (va_up (va_up (fun _ => none) 0 (some q53)) 1 (some q87)) 2 (some q121))))))) := by rw [hu128]; exact (va_up_ne _ _ (Nat.ne_of_lt l_q13_q16)).trans f_q13
  replace f_q16 : u128 q16 = some (.inl (cs 0, 4, .inl (upd (upd (upd (fun _ => 0) 0 1) 1 1) 2 1))) := by rw [hu128]; exact va_up_self _ _ _
  refine lv_iinc (v := 3) (lv' := [(1, .int 3), (0, .ref h0)]) hx hb dX8_init_149 hl (k := 0) rfl (by decide) (by decide) rfl (fun ls hl => ?_)
  refine lv_goto (tgt := 72) hx hb dX8_init_152 (by decide) ?_
  refine lv_iload_n hx hb dX8_init_72 rfl (lv_at hl 0 rfl) ?_
  refine lv_iconst (v := 4) hx hb dX8_init_73 (by decide) ?_
  refine lv_icmp_ge (tgt := 155) hx hb dX8_init_74 (by decide) (fun h => absurd h (by decide)) (fun _ => ?_)
  refine lv_aload_n hx hb dX8_init_77 rfl (lv_at hl 1 rfl) ?_
  refine fw_get X gC_ok hF f_h0 rfl 0 (by decide) wm_176 rfl dX8_init_78 ?_
  refine lv_iload_n hx hb dX8_init_81 rfl (lv_at hl 0 rfl) ?_
  have m_q19 := hF.lt f_q19
  have m_q22 := hF.lt f_q22
  have m_h0 := hF.lt f_h0
  have m_q28 := hF.lt f_q28
  have m_q35 := hF.lt f_q35
  have m_q32 := hF.lt f_q32
  have m_q42 := hF.lt f_q42
  have m_q39 := hF.lt f_q39
  have m_q49 := hF.lt f_q49
  have m_q46 := hF.lt f_q46
  have m_q56 := hF.lt f_q56
  have m_q53 := hF.lt f_q53
  have m_q62 := hF.lt f_q62
  have m_q69 := hF.lt f_q69
  have m_q66 := hF.lt f_q66
  have m_q76 := hF.lt f_q76
  have m_q73 := hF.lt f_q73
  have m_q83 := hF.lt f_q83
  have m_q80 := hF.lt f_q80
  have m_q90 := hF.lt f_q90
  have m_q87 := hF.lt f_q87
  have m_q96 := hF.lt f_q96
  have m_q1 := hF.lt f_q1
  have m_q103 := hF.lt f_q103
  have m_q100 := hF.lt f_q100
  have m_q4 := hF.lt f_q4
  have m_q110 := hF.lt f_q110
  have m_q107 := hF.lt f_q107
  have m_q7 := hF.lt f_q7
  have m_q117 := hF.lt f_q117
  have m_q114 := hF.lt f_q114
  have m_q10 := hF.lt f_q10
  have m_q124 := hF.lt f_q124
  have m_q121 := hF.lt f_q121
  have m_q13 := hF.lt f_q13
  have m_q16 := hF.lt f_q16
  refine fw_new (ci := 5) (fs := [.int 0, .int 0, .null, .null, .int 0, .int 0]) X gC_ok hF hS rfl tyX5 tyX5_ok (by decide +kernel) wm_44 wm_86 wm_27 (Nat.le_of_ble_eq_true rfl) (Nat.le_of_ble_eq_true rfl) dX8_init_82 (fun q130 H nq130 zq130 zzq130 hF hS => ?_)
  have l_q19_q130 : q19 < q130 := Nat.lt_of_lt_of_le m_q19 (Nat.le_of_eq zq130.symm)
  have l_q22_q130 : q22 < q130 := Nat.lt_of_lt_of_le m_q22 (Nat.le_of_eq zq130.symm)
  have l_h0_q130 : h0 < q130 := Nat.lt_of_lt_of_le m_h0 (Nat.le_of_eq zq130.symm)
  have l_q28_q130 : q28 < q130 := Nat.lt_of_lt_of_le m_q28 (Nat.le_of_eq zq130.symm)
  have l_q35_q130 : q35 < q130 := Nat.lt_of_lt_of_le m_q35 (Nat.le_of_eq zq130.symm)
  have l_q32_q130 : q32 < q130 := Nat.lt_of_lt_of_le m_q32 (Nat.le_of_eq zq130.symm)
  have l_q42_q130 : q42 < q130 := Nat.lt_of_lt_of_le m_q42 (Nat.le_of_eq zq130.symm)
  have l_q39_q130 : q39 < q130 := Nat.lt_of_lt_of_le m_q39 (Nat.le_of_eq zq130.symm)
  have l_q49_q130 : q49 < q130 := Nat.lt_of_lt_of_le m_q49 (Nat.le_of_eq zq130.symm)
  have l_q46_q130 : q46 < q130 := Nat.lt_of_lt_of_le m_q46 (Nat.le_of_eq zq130.symm)
  have l_q56_q130 : q56 < q130 := Nat.lt_of_lt_of_le m_q56 (Nat.le_of_eq zq130.symm)
  have l_q53_q130 : q53 < q130 := Nat.lt_of_lt_of_le m_q53 (Nat.le_of_eq zq130.symm)
  have l_q62_q130 : q62 < q130 := Nat.lt_of_lt_of_le m_q62 (Nat.le_of_eq zq130.symm)
  have l_q69_q130 : q69 < q130 := Nat.lt_of_lt_of_le m_q69 (Nat.le_of_eq zq130.symm)
  have l_q66_q130 : q66 < q130 := Nat.lt_of_lt_of_le m_q66 (Nat.le_of_eq zq130.symm)
  have l_q76_q130 : q76 < q130 := Nat.lt_of_lt_of_le m_q76 (Nat.le_of_eq zq130.symm)
  have l_q73_q130 : q73 < q130 := Nat.lt_of_lt_of_le m_q73 (Nat.le_of_eq zq130.symm)
  have l_q83_q130 : q83 < q130 := Nat.lt_of_lt_of_le m_q83 (Nat.le_of_eq zq130.symm)
  have l_q80_q130 : q80 < q130 := Nat.lt_of_lt_of_le m_q80 (Nat.le_of_eq zq130.symm)
  have l_q90_q130 : q90 < q130 := Nat.lt_of_lt_of_le m_q90 (Nat.le_of_eq zq130.symm)
  have l_q87_q130 : q87 < q130 := Nat.lt_of_lt_of_le m_q87 (Nat.le_of_eq zq130.symm)
  have l_q96_q130 : q96 < q130 := Nat.lt_of_lt_of_le m_q96 (Nat.le_of_eq zq130.symm)
  have l_q1_q130 : q1 < q130 := Nat.lt_of_lt_of_le m_q1 (Nat.le_of_eq zq130.symm)
  have l_q103_q130 : q103 < q130 := Nat.lt_of_lt_of_le m_q103 (Nat.le_of_eq zq130.symm)
  have l_q100_q130 : q100 < q130 := Nat.lt_of_lt_of_le m_q100 (Nat.le_of_eq zq130.symm)
  have l_q4_q130 : q4 < q130 := Nat.lt_of_lt_of_le m_q4 (Nat.le_of_eq zq130.symm)
  have l_q110_q130 : q110 < q130 := Nat.lt_of_lt_of_le m_q110 (Nat.le_of_eq zq130.symm)
  have l_q107_q130 : q107 < q130 := Nat.lt_of_lt_of_le m_q107 (Nat.le_of_eq zq130.symm)
  have l_q7_q130 : q7 < q130 := Nat.lt_of_lt_of_le m_q7 (Nat.le_of_eq zq130.symm)
  have l_q117_q130 : q117 < q130 := Nat.lt_of_lt_of_le m_q117 (Nat.le_of_eq zq130.symm)
  have l_q114_q130 : q114 < q130 := Nat.lt_of_lt_of_le m_q114 (Nat.le_of_eq zq130.symm)
  have l_q10_q130 : q10 < q130 := Nat.lt_of_lt_of_le m_q10 (Nat.le_of_eq zq130.symm)
  have l_q124_q130 : q124 < q130 := Nat.lt_of_lt_of_le m_q124 (Nat.le_of_eq zq130.symm)
  have l_q121_q130 : q121 < q130 := Nat.lt_of_lt_of_le m_q121 (Nat.le_of_eq zq130.symm)
  have l_q13_q130 : q13 < q130 := Nat.lt_of_lt_of_le m_q13 (Nat.le_of_eq zq130.symm)
  have l_q16_q130 : q16 < q130 := Nat.lt_of_lt_of_le m_q16 (Nat.le_of_eq zq130.symm)
  clear m_q19 m_q22 m_h0 m_q28 m_q35 m_q32 m_q42 m_q39 m_q49 m_q46 m_q56 m_q53 m_q62 m_q69 m_q66 m_q76 m_q73 m_q83 m_q80 m_q90 m_q87 m_q96 m_q1 m_q103 m_q100 m_q4 m_q110 m_q107 m_q7 m_q117 m_q114 m_q10 m_q124 m_q121 m_q13 m_q16
  have hF : fw_P D cls10 A (va_up u128 q130 (some (.inr (5, [.int 0, .int 0, .null, .null, .int 0, .int 0])))) H := hF
  obtain ⟨u131, hu131⟩ : ∃ y : fW, y = va_up u128 q130 (some (.inr (5, [.int 0, .int 0, .null, .null, .int 0, .int 0]))) := ⟨_, rfl⟩
  rw [← hu131] at hF
  replace f_q19 : u131 q19 = some (.inl (cs 0, 8, .inl (fun _ => 0))) := by rw [hu131]; exact (va_up_ne _ _ (Nat.ne_of_lt l_q19_q130)).trans f_q19
  replace f_q22 : u131 q22 = some (.inr (4, [.int 0, .int 0, .int 0, .int (-1), .int 0, .long 0])) := by rw [hu131]; exact (va_up_ne _ _ (Nat.ne_of_lt l_q22_q130)).trans f_q22
  replace f_h0 : u131 h0 = some (.inr (8, [.ref q1, .ref q4, .ref q7, .ref q10, .ref q13, .ref q16, .ref q19, .ref q22])) := by rw [hu131]; exact (va_up_ne _ _ (Nat.ne_of_lt l_h0_q130)).trans f_h0
  replace f_q28 : u131 q28 = some (.inr (5, [.int 0, .int 0, .null, .null, .int 0, .int 0])) := by rw [hu131]; exact (va_up_ne _ _ (Nat.ne_of_lt l_q28_q130)).trans f_q28
  replace f_q35 : u131 q35 = some (.inl (cs 0, 12, .inl (fun _ => 0))) := by rw [hu131]; exact (va_up_ne _ _ (Nat.ne_of_lt l_q35_q130)).trans f_q35
  replace f_q32 : u131 q32 = some (.inr (0, [.ref q35, .int (-1)])) := by rw [hu131]; exact (va_up_ne _ _ (Nat.ne_of_lt l_q32_q130)).trans f_q32
  replace f_q42 : u131 q42 = some (.inl (cs 7, 12, .inr (.inr (.inr (.inr (fun _ => none)))))) := by rw [hu131]; exact (va_up_ne _ _ (Nat.ne_of_lt l_q42_q130)).trans f_q42
  replace f_q39 : u131 q39 = some (.inr (3, [.ref q42, .int (-1), .int 0])) := by rw [hu131]; exact (va_up_ne _ _ (Nat.ne_of_lt l_q39_q130)).trans f_q39
  replace f_q49 : u131 q49 = some (.inl (cs 0, 144, .inl (fun _ => 0))) := by rw [hu131]; exact (va_up_ne _ _ (Nat.ne_of_lt l_q49_q130)).trans f_q49
  replace f_q46 : u131 q46 = some (.inr (1, [.ref q49, .int (-1), .int 0])) := by rw [hu131]; exact (va_up_ne _ _ (Nat.ne_of_lt l_q46_q130)).trans f_q46
  replace f_q56 : u131 q56 = some (.inl (cs 8, 16, .inr (.inr (.inr (.inr (fun _ => none)))))) := by rw [hu131]; exact (va_up_ne _ _ (Nat.ne_of_lt l_q56_q130)).trans f_q56
  replace f_q53 : u131 q53 = some (.inr (2, [.ref q56, .int 0])) := by rw [hu131]; exact (va_up_ne _ _ (Nat.ne_of_lt l_q53_q130)).trans f_q53
  replace f_q62 : u131 q62 = some (.inr (5, [.int 0, .int 0, .null, .null, .int 0, .int 0])) := by rw [hu131]; exact (va_up_ne _ _ (Nat.ne_of_lt l_q62_q130)).trans f_q62
  replace f_q69 : u131 q69 = some (.inl (cs 0, 12, .inl (fun _ => 0))) := by rw [hu131]; exact (va_up_ne _ _ (Nat.ne_of_lt l_q69_q130)).trans f_q69
  replace f_q66 : u131 q66 = some (.inr (0, [.ref q69, .int (-1)])) := by rw [hu131]; exact (va_up_ne _ _ (Nat.ne_of_lt l_q66_q130)).trans f_q66
  replace f_q76 : u131 q76 = some (.inl (cs 7, 12, .inr (.inr (.inr (.inr (fun _ => none)))))) := by rw [hu131]; exact (va_up_ne _ _ (Nat.ne_of_lt l_q76_q130)).trans f_q76
  replace f_q73 : u131 q73 = some (.inr (3, [.ref q76, .int (-1), .int 0])) := by rw [hu131]; exact (va_up_ne _ _ (Nat.ne_of_lt l_q73_q130)).trans f_q73
  replace f_q83 : u131 q83 = some (.inl (cs 0, 144, .inl (fun _ => 0))) := by rw [hu131]; exact (va_up_ne _ _ (Nat.ne_of_lt l_q83_q130)).trans f_q83
  replace f_q80 : u131 q80 = some (.inr (1, [.ref q83, .int (-1), .int 0])) := by rw [hu131]; exact (va_up_ne _ _ (Nat.ne_of_lt l_q80_q130)).trans f_q80
  replace f_q90 : u131 q90 = some (.inl (cs 8, 16, .inr (.inr (.inr (.inr (fun _ => none)))))) := by rw [hu131]; exact (va_up_ne _ _ (Nat.ne_of_lt l_q90_q130)).trans f_q90
  replace f_q87 : u131 q87 = some (.inr (2, [.ref q90, .int 0])) := by rw [hu131]; exact (va_up_ne _ _ (Nat.ne_of_lt l_q87_q130)).trans f_q87
  replace f_q96 : u131 q96 = some (.inr (5, [.int 0, .int 0, .null, .null, .int 0, .int 0])) := by rw [hu131]; exact (va_up_ne _ _ (Nat.ne_of_lt l_q96_q130)).trans f_q96
  replace f_q1 : u131 q1 = some (.inl (cs 2, 4, .inr (.inr (.inr (.inr (va_up (va_up (va_up (fun _ => none) 0 (some q28)) 1 (some q62)) 2 (some q96))))))) := by rw [hu131]; exact (va_up_ne _ _ (Nat.ne_of_lt l_q1_q130)).trans f_q1
  replace f_q103 : u131 q103 = some (.inl (cs 0, 12, .inl (fun _ => 0))) := by rw [hu131]; exact (va_up_ne _ _ (Nat.ne_of_lt l_q103_q130)).trans f_q103
  replace f_q100 : u131 q100 = some (.inr (0, [.ref q103, .int (-1)])) := by rw [hu131]; exact (va_up_ne _ _ (Nat.ne_of_lt l_q100_q130)).trans f_q100
  replace f_q4 : u131 q4 = some (.inl (cs 3, 4, .inr (.inr (.inr (.inr (va_up (va_up (va_up (fun _ => none) 0 (some q32)) 1 (some q66)) 2 (some q100))))))) := by rw [hu131]; exact (va_up_ne _ _ (Nat.ne_of_lt l_q4_q130)).trans f_q4
  replace f_q110 : u131 q110 = some (.inl (cs 7, 12, .inr (.inr (.inr (.inr (fun _ => none)))))) := by rw [hu131]; exact (va_up_ne _ _ (Nat.ne_of_lt l_q110_q130)).trans f_q110
  replace f_q107 : u131 q107 = some (.inr (3, [.ref q110, .int (-1), .int 0])) := by rw [hu131]; exact (va_up_ne _ _ (Nat.ne_of_lt l_q107_q130)).trans f_q107
  replace f_q7 : u131 q7 = some (.inl (cs 4, 4, .inr (.inr (.inr (.inr (va_up (va_up (va_up (fun _ => none) 0 (some q39)) 1 (some q73)) 2 (some q107))))))) := by rw [hu131]; exact (va_up_ne _ _ (Nat.ne_of_lt l_q7_q130)).trans f_q7
  replace f_q117 : u131 q117 = some (.inl (cs 0, 144, .inl (fun _ => 0))) := by rw [hu131]; exact (va_up_ne _ _ (Nat.ne_of_lt l_q117_q130)).trans f_q117
  replace f_q114 : u131 q114 = some (.inr (1, [.ref q117, .int (-1), .int 0])) := by rw [hu131]; exact (va_up_ne _ _ (Nat.ne_of_lt l_q114_q130)).trans f_q114
  replace f_q10 : u131 q10 = some (.inl (cs 5, 4, .inr (.inr (.inr (.inr (va_up (va_up (va_up (fun _ => none) 0 (some q46)) 1 (some q80)) 2 (some q114))))))) := by rw [hu131]; exact (va_up_ne _ _ (Nat.ne_of_lt l_q10_q130)).trans f_q10
  replace f_q124 : u131 q124 = some (.inl (cs 8, 16, .inr (.inr (.inr (.inr (fun _ => none)))))) := by rw [hu131]; exact (va_up_ne _ _ (Nat.ne_of_lt l_q124_q130)).trans f_q124
  replace f_q121 : u131 q121 = some (.inr (2, [.ref q124, .int 0])) := by rw [hu131]; exact (va_up_ne _ _ (Nat.ne_of_lt l_q121_q130)).trans f_q121
  replace f_q13 : u131 q13 = some (.inl (cs 6, 4, .inr (.inr (.inr (.inr (va_up (va_up (va_up (fun _ => none) 0 (some q53)) 1 (some q87)) 2 (some q121))))))) := by rw [hu131]; exact (va_up_ne _ _ (Nat.ne_of_lt l_q13_q130)).trans f_q13
  replace f_q16 : u131 q16 = some (.inl (cs 0, 4, .inl (upd (upd (upd (fun _ => 0) 0 1) 1 1) 2 1))) := by rw [hu131]; exact (va_up_ne _ _ (Nat.ne_of_lt l_q16_q130)).trans f_q16
  have f_q130 : u131 q130 = some (.inr (5, [.int 0, .int 0, .null, .null, .int 0, .int 0])) := by rw [hu131]; exact va_up_self _ _ _
  refine lv_dup hx hb dX8_init_85 rfl ?_
  refine fw_callIN (As := []) (rest := [.ref q130, .int 3, .ref q1]) X bs_all nw_all mf_X5_init (c_X5_init l D cs _ _ q130 false 0 none none 0 0 f_q130) nm_87 wm_88 rfl hF hS rfl ((⟨⟨Nat.le_of_ble_eq_true rfl, Nat.le_of_ble_eq_true rfl⟩, Nat.le_of_ble_eq_true rfl, Nat.le_of_ble_eq_true rfl⟩)) rfl hl.1 rfl (Nat.le_of_ble_eq_true rfl) dX8_init_86 (fun v u132 H locs hp hF hS hz1 hk1 hd1 => ?_)
  obtain ⟨hv1, hw1⟩ := hp
  subst hv1
  rw [hw1] at hF
  clear hw1 hd1 hk1
  refine W.eq (g2 := F0 m 89 ls [.ref q130, .int 3, .ref q1]) rfl ?_
  refine fw_astq X hF hS f_q1 2 rfl f_q130 rfl (vp_in_iff.mpr (by decide)) dX8_init_89 (fun H locs hF hS => ?_)
  have hF : fw_P D cls10 A (va_up u131 q1 (some (.inl (cs 2, 4, .inr (.inr (.inr (.inr (va_up (va_up (va_up (va_up (fun _ => none) 0 (some q28)) 1 (some q62)) 2 (some q96)) 3 (some q130))))))))) H := hF
  obtain ⟨u133, hu133⟩ : ∃ y : fW, y = va_up u131 q1 (some (.inl (cs 2, 4, .inr (.inr (.inr (.inr (va_up (va_up (va_up (va_up (fun _ => none) 0 (some q28)) 1 (some q62)) 2 (some q96)) 3 (some q130)))))))) := ⟨_, rfl⟩
  rw [← hu133] at hF
  replace f_q19 : u133 q19 = some (.inl (cs 0, 8, .inl (fun _ => 0))) := by rw [hu133]; exact (va_up_ne _ _ (Nat.ne_of_gt l_q1_q19)).trans f_q19
  replace f_q22 : u133 q22 = some (.inr (4, [.int 0, .int 0, .int 0, .int (-1), .int 0, .long 0])) := by rw [hu133]; exact (va_up_ne _ _ (Nat.ne_of_gt l_q1_q22)).trans f_q22
  replace f_h0 : u133 h0 = some (.inr (8, [.ref q1, .ref q4, .ref q7, .ref q10, .ref q13, .ref q16, .ref q19, .ref q22])) := by rw [hu133]; exact (va_up_ne _ _ (Nat.ne_of_lt l_h0_q1)).trans f_h0
  replace f_q28 : u133 q28 = some (.inr (5, [.int 0, .int 0, .null, .null, .int 0, .int 0])) := by rw [hu133]; exact (va_up_ne _ _ (Nat.ne_of_gt l_q1_q28)).trans f_q28
  replace f_q35 : u133 q35 = some (.inl (cs 0, 12, .inl (fun _ => 0))) := by rw [hu133]; exact (va_up_ne _ _ (Nat.ne_of_gt l_q1_q35)).trans f_q35
  replace f_q32 : u133 q32 = some (.inr (0, [.ref q35, .int (-1)])) := by rw [hu133]; exact (va_up_ne _ _ (Nat.ne_of_gt l_q1_q32)).trans f_q32
  replace f_q42 : u133 q42 = some (.inl (cs 7, 12, .inr (.inr (.inr (.inr (fun _ => none)))))) := by rw [hu133]; exact (va_up_ne _ _ (Nat.ne_of_gt l_q1_q42)).trans f_q42
  replace f_q39 : u133 q39 = some (.inr (3, [.ref q42, .int (-1), .int 0])) := by rw [hu133]; exact (va_up_ne _ _ (Nat.ne_of_gt l_q1_q39)).trans f_q39
  replace f_q49 : u133 q49 = some (.inl (cs 0, 144, .inl (fun _ => 0))) := by rw [hu133]; exact (va_up_ne _ _ (Nat.ne_of_gt l_q1_q49)).trans f_q49
  replace f_q46 : u133 q46 = some (.inr (1, [.ref q49, .int (-1), .int 0])) := by rw [hu133]; exact (va_up_ne _ _ (Nat.ne_of_gt l_q1_q46)).trans f_q46
  replace f_q56 : u133 q56 = some (.inl (cs 8, 16, .inr (.inr (.inr (.inr (fun _ => none)))))) := by rw [hu133]; exact (va_up_ne _ _ (Nat.ne_of_gt l_q1_q56)).trans f_q56
  replace f_q53 : u133 q53 = some (.inr (2, [.ref q56, .int 0])) := by rw [hu133]; exact (va_up_ne _ _ (Nat.ne_of_gt l_q1_q53)).trans f_q53
  replace f_q62 : u133 q62 = some (.inr (5, [.int 0, .int 0, .null, .null, .int 0, .int 0])) := by rw [hu133]; exact (va_up_ne _ _ (Nat.ne_of_gt l_q1_q62)).trans f_q62
  replace f_q69 : u133 q69 = some (.inl (cs 0, 12, .inl (fun _ => 0))) := by rw [hu133]; exact (va_up_ne _ _ (Nat.ne_of_gt l_q1_q69)).trans f_q69
  replace f_q66 : u133 q66 = some (.inr (0, [.ref q69, .int (-1)])) := by rw [hu133]; exact (va_up_ne _ _ (Nat.ne_of_gt l_q1_q66)).trans f_q66
  replace f_q76 : u133 q76 = some (.inl (cs 7, 12, .inr (.inr (.inr (.inr (fun _ => none)))))) := by rw [hu133]; exact (va_up_ne _ _ (Nat.ne_of_gt l_q1_q76)).trans f_q76
  replace f_q73 : u133 q73 = some (.inr (3, [.ref q76, .int (-1), .int 0])) := by rw [hu133]; exact (va_up_ne _ _ (Nat.ne_of_gt l_q1_q73)).trans f_q73
  replace f_q83 : u133 q83 = some (.inl (cs 0, 144, .inl (fun _ => 0))) := by rw [hu133]; exact (va_up_ne _ _ (Nat.ne_of_gt l_q1_q83)).trans f_q83
  replace f_q80 : u133 q80 = some (.inr (1, [.ref q83, .int (-1), .int 0])) := by rw [hu133]; exact (va_up_ne _ _ (Nat.ne_of_gt l_q1_q80)).trans f_q80
  replace f_q90 : u133 q90 = some (.inl (cs 8, 16, .inr (.inr (.inr (.inr (fun _ => none)))))) := by rw [hu133]; exact (va_up_ne _ _ (Nat.ne_of_gt l_q1_q90)).trans f_q90
  replace f_q87 : u133 q87 = some (.inr (2, [.ref q90, .int 0])) := by rw [hu133]; exact (va_up_ne _ _ (Nat.ne_of_gt l_q1_q87)).trans f_q87
  replace f_q96 : u133 q96 = some (.inr (5, [.int 0, .int 0, .null, .null, .int 0, .int 0])) := by rw [hu133]; exact (va_up_ne _ _ (Nat.ne_of_gt l_q1_q96)).trans f_q96
  replace f_q103 : u133 q103 = some (.inl (cs 0, 12, .inl (fun _ => 0))) := by rw [hu133]; exact (va_up_ne _ _ (Nat.ne_of_gt l_q1_q103)).trans f_q103
  replace f_q100 : u133 q100 = some (.inr (0, [.ref q103, .int (-1)])) := by rw [hu133]; exact (va_up_ne _ _ (Nat.ne_of_gt l_q1_q100)).trans f_q100
  replace f_q4 : u133 q4 = some (.inl (cs 3, 4, .inr (.inr (.inr (.inr (va_up (va_up (va_up (fun _ => none) 0 (some q32)) 1 (some q66)) 2 (some q100))))))) := by rw [hu133]; exact (va_up_ne _ _ (Nat.ne_of_gt l_q1_q4)).trans f_q4
  replace f_q110 : u133 q110 = some (.inl (cs 7, 12, .inr (.inr (.inr (.inr (fun _ => none)))))) := by rw [hu133]; exact (va_up_ne _ _ (Nat.ne_of_gt l_q1_q110)).trans f_q110
  replace f_q107 : u133 q107 = some (.inr (3, [.ref q110, .int (-1), .int 0])) := by rw [hu133]; exact (va_up_ne _ _ (Nat.ne_of_gt l_q1_q107)).trans f_q107
  replace f_q7 : u133 q7 = some (.inl (cs 4, 4, .inr (.inr (.inr (.inr (va_up (va_up (va_up (fun _ => none) 0 (some q39)) 1 (some q73)) 2 (some q107))))))) := by rw [hu133]; exact (va_up_ne _ _ (Nat.ne_of_gt l_q1_q7)).trans f_q7
  replace f_q117 : u133 q117 = some (.inl (cs 0, 144, .inl (fun _ => 0))) := by rw [hu133]; exact (va_up_ne _ _ (Nat.ne_of_gt l_q1_q117)).trans f_q117
  replace f_q114 : u133 q114 = some (.inr (1, [.ref q117, .int (-1), .int 0])) := by rw [hu133]; exact (va_up_ne _ _ (Nat.ne_of_gt l_q1_q114)).trans f_q114
  replace f_q10 : u133 q10 = some (.inl (cs 5, 4, .inr (.inr (.inr (.inr (va_up (va_up (va_up (fun _ => none) 0 (some q46)) 1 (some q80)) 2 (some q114))))))) := by rw [hu133]; exact (va_up_ne _ _ (Nat.ne_of_gt l_q1_q10)).trans f_q10
  replace f_q124 : u133 q124 = some (.inl (cs 8, 16, .inr (.inr (.inr (.inr (fun _ => none)))))) := by rw [hu133]; exact (va_up_ne _ _ (Nat.ne_of_gt l_q1_q124)).trans f_q124
  replace f_q121 : u133 q121 = some (.inr (2, [.ref q124, .int 0])) := by rw [hu133]; exact (va_up_ne _ _ (Nat.ne_of_gt l_q1_q121)).trans f_q121
  replace f_q13 : u133 q13 = some (.inl (cs 6, 4, .inr (.inr (.inr (.inr (va_up (va_up (va_up (fun _ => none) 0 (some q53)) 1 (some q87)) 2 (some q121))))))) := by rw [hu133]; exact (va_up_ne _ _ (Nat.ne_of_gt l_q1_q13)).trans f_q13
  replace f_q16 : u133 q16 = some (.inl (cs 0, 4, .inl (upd (upd (upd (fun _ => 0) 0 1) 1 1) 2 1))) := by rw [hu133]; exact (va_up_ne _ _ (Nat.ne_of_gt l_q1_q16)).trans f_q16
  replace f_q130 : u133 q130 = some (.inr (5, [.int 0, .int 0, .null, .null, .int 0, .int 0])) := by rw [hu133]; exact (va_up_ne _ _ (Nat.ne_of_gt l_q1_q130)).trans f_q130
  replace f_q1 : u133 q1 = some (.inl (cs 2, 4, .inr (.inr (.inr (.inr (va_up (va_up (va_up (va_up (fun _ => none) 0 (some q28)) 1 (some q62)) 2 (some q96)) 3 (some q130))))))) := by rw [hu133]; exact va_up_self _ _ _
  refine lv_aload_n hx hb dX8_init_90 rfl (lv_at hl 1 rfl) ?_
  refine fw_get X gC_ok hF f_h0 rfl 1 (by decide) wm_177 rfl dX8_init_91 ?_
  refine lv_iload_n hx hb dX8_init_94 rfl (lv_at hl 0 rfl) ?_
  have m_q19 := hF.lt f_q19
  have m_q22 := hF.lt f_q22
  have m_h0 := hF.lt f_h0
  have m_q28 := hF.lt f_q28
  have m_q35 := hF.lt f_q35
  have m_q32 := hF.lt f_q32
  have m_q42 := hF.lt f_q42
  have m_q39 := hF.lt f_q39
  have m_q49 := hF.lt f_q49
  have m_q46 := hF.lt f_q46
  have m_q56 := hF.lt f_q56
  have m_q53 := hF.lt f_q53
  have m_q62 := hF.lt f_q62
  have m_q69 := hF.lt f_q69
  have m_q66 := hF.lt f_q66
  have m_q76 := hF.lt f_q76
  have m_q73 := hF.lt f_q73
  have m_q83 := hF.lt f_q83
  have m_q80 := hF.lt f_q80
  have m_q90 := hF.lt f_q90
  have m_q87 := hF.lt f_q87
  have m_q96 := hF.lt f_q96
  have m_q103 := hF.lt f_q103
  have m_q100 := hF.lt f_q100
  have m_q4 := hF.lt f_q4
  have m_q110 := hF.lt f_q110
  have m_q107 := hF.lt f_q107
  have m_q7 := hF.lt f_q7
  have m_q117 := hF.lt f_q117
  have m_q114 := hF.lt f_q114
  have m_q10 := hF.lt f_q10
  have m_q124 := hF.lt f_q124
  have m_q121 := hF.lt f_q121
  have m_q13 := hF.lt f_q13
  have m_q16 := hF.lt f_q16
  have m_q130 := hF.lt f_q130
  have m_q1 := hF.lt f_q1
  refine fw_new (ci := 0) (fs := [.null, .int 0]) X gC_ok hF hS rfl tyX0 tyX0_ok (by decide +kernel) wm_46 wm_114 wm_28 (Nat.le_of_ble_eq_true rfl) (Nat.le_of_ble_eq_true rfl) dX8_init_95 (fun q134 H nq134 zq134 zzq134 hF hS => ?_)
  have l_q19_q134 : q19 < q134 := Nat.lt_of_lt_of_le m_q19 (Nat.le_of_eq zq134.symm)
  have l_q22_q134 : q22 < q134 := Nat.lt_of_lt_of_le m_q22 (Nat.le_of_eq zq134.symm)
  have l_h0_q134 : h0 < q134 := Nat.lt_of_lt_of_le m_h0 (Nat.le_of_eq zq134.symm)
  have l_q28_q134 : q28 < q134 := Nat.lt_of_lt_of_le m_q28 (Nat.le_of_eq zq134.symm)
  have l_q35_q134 : q35 < q134 := Nat.lt_of_lt_of_le m_q35 (Nat.le_of_eq zq134.symm)
  have l_q32_q134 : q32 < q134 := Nat.lt_of_lt_of_le m_q32 (Nat.le_of_eq zq134.symm)
  have l_q42_q134 : q42 < q134 := Nat.lt_of_lt_of_le m_q42 (Nat.le_of_eq zq134.symm)
  have l_q39_q134 : q39 < q134 := Nat.lt_of_lt_of_le m_q39 (Nat.le_of_eq zq134.symm)
  have l_q49_q134 : q49 < q134 := Nat.lt_of_lt_of_le m_q49 (Nat.le_of_eq zq134.symm)
  have l_q46_q134 : q46 < q134 := Nat.lt_of_lt_of_le m_q46 (Nat.le_of_eq zq134.symm)
  have l_q56_q134 : q56 < q134 := Nat.lt_of_lt_of_le m_q56 (Nat.le_of_eq zq134.symm)
  have l_q53_q134 : q53 < q134 := Nat.lt_of_lt_of_le m_q53 (Nat.le_of_eq zq134.symm)
  have l_q62_q134 : q62 < q134 := Nat.lt_of_lt_of_le m_q62 (Nat.le_of_eq zq134.symm)
  have l_q69_q134 : q69 < q134 := Nat.lt_of_lt_of_le m_q69 (Nat.le_of_eq zq134.symm)
  have l_q66_q134 : q66 < q134 := Nat.lt_of_lt_of_le m_q66 (Nat.le_of_eq zq134.symm)
  have l_q76_q134 : q76 < q134 := Nat.lt_of_lt_of_le m_q76 (Nat.le_of_eq zq134.symm)
  have l_q73_q134 : q73 < q134 := Nat.lt_of_lt_of_le m_q73 (Nat.le_of_eq zq134.symm)
  have l_q83_q134 : q83 < q134 := Nat.lt_of_lt_of_le m_q83 (Nat.le_of_eq zq134.symm)
  have l_q80_q134 : q80 < q134 := Nat.lt_of_lt_of_le m_q80 (Nat.le_of_eq zq134.symm)
  have l_q90_q134 : q90 < q134 := Nat.lt_of_lt_of_le m_q90 (Nat.le_of_eq zq134.symm)
  have l_q87_q134 : q87 < q134 := Nat.lt_of_lt_of_le m_q87 (Nat.le_of_eq zq134.symm)
  have l_q96_q134 : q96 < q134 := Nat.lt_of_lt_of_le m_q96 (Nat.le_of_eq zq134.symm)
  have l_q103_q134 : q103 < q134 := Nat.lt_of_lt_of_le m_q103 (Nat.le_of_eq zq134.symm)
  have l_q100_q134 : q100 < q134 := Nat.lt_of_lt_of_le m_q100 (Nat.le_of_eq zq134.symm)
  have l_q4_q134 : q4 < q134 := Nat.lt_of_lt_of_le m_q4 (Nat.le_of_eq zq134.symm)
  have l_q110_q134 : q110 < q134 := Nat.lt_of_lt_of_le m_q110 (Nat.le_of_eq zq134.symm)
  have l_q107_q134 : q107 < q134 := Nat.lt_of_lt_of_le m_q107 (Nat.le_of_eq zq134.symm)
  have l_q7_q134 : q7 < q134 := Nat.lt_of_lt_of_le m_q7 (Nat.le_of_eq zq134.symm)
  have l_q117_q134 : q117 < q134 := Nat.lt_of_lt_of_le m_q117 (Nat.le_of_eq zq134.symm)
  have l_q114_q134 : q114 < q134 := Nat.lt_of_lt_of_le m_q114 (Nat.le_of_eq zq134.symm)
  have l_q10_q134 : q10 < q134 := Nat.lt_of_lt_of_le m_q10 (Nat.le_of_eq zq134.symm)
  have l_q124_q134 : q124 < q134 := Nat.lt_of_lt_of_le m_q124 (Nat.le_of_eq zq134.symm)
  have l_q121_q134 : q121 < q134 := Nat.lt_of_lt_of_le m_q121 (Nat.le_of_eq zq134.symm)
  have l_q13_q134 : q13 < q134 := Nat.lt_of_lt_of_le m_q13 (Nat.le_of_eq zq134.symm)
  have l_q16_q134 : q16 < q134 := Nat.lt_of_lt_of_le m_q16 (Nat.le_of_eq zq134.symm)
  have l_q130_q134 : q130 < q134 := Nat.lt_of_lt_of_le m_q130 (Nat.le_of_eq zq134.symm)
  have l_q1_q134 : q1 < q134 := Nat.lt_of_lt_of_le m_q1 (Nat.le_of_eq zq134.symm)
  clear m_q19 m_q22 m_h0 m_q28 m_q35 m_q32 m_q42 m_q39 m_q49 m_q46 m_q56 m_q53 m_q62 m_q69 m_q66 m_q76 m_q73 m_q83 m_q80 m_q90 m_q87 m_q96 m_q103 m_q100 m_q4 m_q110 m_q107 m_q7 m_q117 m_q114 m_q10 m_q124 m_q121 m_q13 m_q16 m_q130 m_q1
  have hF : fw_P D cls10 A (va_up u133 q134 (some (.inr (0, [.null, .int 0])))) H := hF
  obtain ⟨u135, hu135⟩ : ∃ y : fW, y = va_up u133 q134 (some (.inr (0, [.null, .int 0]))) := ⟨_, rfl⟩
  rw [← hu135] at hF
  replace f_q19 : u135 q19 = some (.inl (cs 0, 8, .inl (fun _ => 0))) := by rw [hu135]; exact (va_up_ne _ _ (Nat.ne_of_lt l_q19_q134)).trans f_q19
  replace f_q22 : u135 q22 = some (.inr (4, [.int 0, .int 0, .int 0, .int (-1), .int 0, .long 0])) := by rw [hu135]; exact (va_up_ne _ _ (Nat.ne_of_lt l_q22_q134)).trans f_q22
  replace f_h0 : u135 h0 = some (.inr (8, [.ref q1, .ref q4, .ref q7, .ref q10, .ref q13, .ref q16, .ref q19, .ref q22])) := by rw [hu135]; exact (va_up_ne _ _ (Nat.ne_of_lt l_h0_q134)).trans f_h0
  replace f_q28 : u135 q28 = some (.inr (5, [.int 0, .int 0, .null, .null, .int 0, .int 0])) := by rw [hu135]; exact (va_up_ne _ _ (Nat.ne_of_lt l_q28_q134)).trans f_q28
  replace f_q35 : u135 q35 = some (.inl (cs 0, 12, .inl (fun _ => 0))) := by rw [hu135]; exact (va_up_ne _ _ (Nat.ne_of_lt l_q35_q134)).trans f_q35
  replace f_q32 : u135 q32 = some (.inr (0, [.ref q35, .int (-1)])) := by rw [hu135]; exact (va_up_ne _ _ (Nat.ne_of_lt l_q32_q134)).trans f_q32
  replace f_q42 : u135 q42 = some (.inl (cs 7, 12, .inr (.inr (.inr (.inr (fun _ => none)))))) := by rw [hu135]; exact (va_up_ne _ _ (Nat.ne_of_lt l_q42_q134)).trans f_q42
  replace f_q39 : u135 q39 = some (.inr (3, [.ref q42, .int (-1), .int 0])) := by rw [hu135]; exact (va_up_ne _ _ (Nat.ne_of_lt l_q39_q134)).trans f_q39
  replace f_q49 : u135 q49 = some (.inl (cs 0, 144, .inl (fun _ => 0))) := by rw [hu135]; exact (va_up_ne _ _ (Nat.ne_of_lt l_q49_q134)).trans f_q49
  replace f_q46 : u135 q46 = some (.inr (1, [.ref q49, .int (-1), .int 0])) := by rw [hu135]; exact (va_up_ne _ _ (Nat.ne_of_lt l_q46_q134)).trans f_q46
  replace f_q56 : u135 q56 = some (.inl (cs 8, 16, .inr (.inr (.inr (.inr (fun _ => none)))))) := by rw [hu135]; exact (va_up_ne _ _ (Nat.ne_of_lt l_q56_q134)).trans f_q56
  replace f_q53 : u135 q53 = some (.inr (2, [.ref q56, .int 0])) := by rw [hu135]; exact (va_up_ne _ _ (Nat.ne_of_lt l_q53_q134)).trans f_q53
  replace f_q62 : u135 q62 = some (.inr (5, [.int 0, .int 0, .null, .null, .int 0, .int 0])) := by rw [hu135]; exact (va_up_ne _ _ (Nat.ne_of_lt l_q62_q134)).trans f_q62
  replace f_q69 : u135 q69 = some (.inl (cs 0, 12, .inl (fun _ => 0))) := by rw [hu135]; exact (va_up_ne _ _ (Nat.ne_of_lt l_q69_q134)).trans f_q69
  replace f_q66 : u135 q66 = some (.inr (0, [.ref q69, .int (-1)])) := by rw [hu135]; exact (va_up_ne _ _ (Nat.ne_of_lt l_q66_q134)).trans f_q66
  replace f_q76 : u135 q76 = some (.inl (cs 7, 12, .inr (.inr (.inr (.inr (fun _ => none)))))) := by rw [hu135]; exact (va_up_ne _ _ (Nat.ne_of_lt l_q76_q134)).trans f_q76
  replace f_q73 : u135 q73 = some (.inr (3, [.ref q76, .int (-1), .int 0])) := by rw [hu135]; exact (va_up_ne _ _ (Nat.ne_of_lt l_q73_q134)).trans f_q73
  replace f_q83 : u135 q83 = some (.inl (cs 0, 144, .inl (fun _ => 0))) := by rw [hu135]; exact (va_up_ne _ _ (Nat.ne_of_lt l_q83_q134)).trans f_q83
  replace f_q80 : u135 q80 = some (.inr (1, [.ref q83, .int (-1), .int 0])) := by rw [hu135]; exact (va_up_ne _ _ (Nat.ne_of_lt l_q80_q134)).trans f_q80
  replace f_q90 : u135 q90 = some (.inl (cs 8, 16, .inr (.inr (.inr (.inr (fun _ => none)))))) := by rw [hu135]; exact (va_up_ne _ _ (Nat.ne_of_lt l_q90_q134)).trans f_q90
  replace f_q87 : u135 q87 = some (.inr (2, [.ref q90, .int 0])) := by rw [hu135]; exact (va_up_ne _ _ (Nat.ne_of_lt l_q87_q134)).trans f_q87
  replace f_q96 : u135 q96 = some (.inr (5, [.int 0, .int 0, .null, .null, .int 0, .int 0])) := by rw [hu135]; exact (va_up_ne _ _ (Nat.ne_of_lt l_q96_q134)).trans f_q96
  replace f_q103 : u135 q103 = some (.inl (cs 0, 12, .inl (fun _ => 0))) := by rw [hu135]; exact (va_up_ne _ _ (Nat.ne_of_lt l_q103_q134)).trans f_q103
  replace f_q100 : u135 q100 = some (.inr (0, [.ref q103, .int (-1)])) := by rw [hu135]; exact (va_up_ne _ _ (Nat.ne_of_lt l_q100_q134)).trans f_q100
  replace f_q4 : u135 q4 = some (.inl (cs 3, 4, .inr (.inr (.inr (.inr (va_up (va_up (va_up (fun _ => none) 0 (some q32)) 1 (some q66)) 2 (some q100))))))) := by rw [hu135]; exact (va_up_ne _ _ (Nat.ne_of_lt l_q4_q134)).trans f_q4
  replace f_q110 : u135 q110 = some (.inl (cs 7, 12, .inr (.inr (.inr (.inr (fun _ => none)))))) := by rw [hu135]; exact (va_up_ne _ _ (Nat.ne_of_lt l_q110_q134)).trans f_q110
  replace f_q107 : u135 q107 = some (.inr (3, [.ref q110, .int (-1), .int 0])) := by rw [hu135]; exact (va_up_ne _ _ (Nat.ne_of_lt l_q107_q134)).trans f_q107
  replace f_q7 : u135 q7 = some (.inl (cs 4, 4, .inr (.inr (.inr (.inr (va_up (va_up (va_up (fun _ => none) 0 (some q39)) 1 (some q73)) 2 (some q107))))))) := by rw [hu135]; exact (va_up_ne _ _ (Nat.ne_of_lt l_q7_q134)).trans f_q7
  replace f_q117 : u135 q117 = some (.inl (cs 0, 144, .inl (fun _ => 0))) := by rw [hu135]; exact (va_up_ne _ _ (Nat.ne_of_lt l_q117_q134)).trans f_q117
  replace f_q114 : u135 q114 = some (.inr (1, [.ref q117, .int (-1), .int 0])) := by rw [hu135]; exact (va_up_ne _ _ (Nat.ne_of_lt l_q114_q134)).trans f_q114
  replace f_q10 : u135 q10 = some (.inl (cs 5, 4, .inr (.inr (.inr (.inr (va_up (va_up (va_up (fun _ => none) 0 (some q46)) 1 (some q80)) 2 (some q114))))))) := by rw [hu135]; exact (va_up_ne _ _ (Nat.ne_of_lt l_q10_q134)).trans f_q10
  replace f_q124 : u135 q124 = some (.inl (cs 8, 16, .inr (.inr (.inr (.inr (fun _ => none)))))) := by rw [hu135]; exact (va_up_ne _ _ (Nat.ne_of_lt l_q124_q134)).trans f_q124
  replace f_q121 : u135 q121 = some (.inr (2, [.ref q124, .int 0])) := by rw [hu135]; exact (va_up_ne _ _ (Nat.ne_of_lt l_q121_q134)).trans f_q121
  replace f_q13 : u135 q13 = some (.inl (cs 6, 4, .inr (.inr (.inr (.inr (va_up (va_up (va_up (fun _ => none) 0 (some q53)) 1 (some q87)) 2 (some q121))))))) := by rw [hu135]; exact (va_up_ne _ _ (Nat.ne_of_lt l_q13_q134)).trans f_q13
  replace f_q16 : u135 q16 = some (.inl (cs 0, 4, .inl (upd (upd (upd (fun _ => 0) 0 1) 1 1) 2 1))) := by rw [hu135]; exact (va_up_ne _ _ (Nat.ne_of_lt l_q16_q134)).trans f_q16
  replace f_q130 : u135 q130 = some (.inr (5, [.int 0, .int 0, .null, .null, .int 0, .int 0])) := by rw [hu135]; exact (va_up_ne _ _ (Nat.ne_of_lt l_q130_q134)).trans f_q130
  replace f_q1 : u135 q1 = some (.inl (cs 2, 4, .inr (.inr (.inr (.inr (va_up (va_up (va_up (va_up (fun _ => none) 0 (some q28)) 1 (some q62)) 2 (some q96)) 3 (some q130))))))) := by rw [hu135]; exact (va_up_ne _ _ (Nat.ne_of_lt l_q1_q134)).trans f_q1
  have f_q134 : u135 q134 = some (.inr (0, [.null, .int 0])) := by rw [hu135]; exact va_up_self _ _ _
  refine lv_dup hx hb dX8_init_98 rfl ?_
  have m_q19 := hF.lt f_q19
  have m_q22 := hF.lt f_q22
  have m_h0 := hF.lt f_h0
  have m_q28 := hF.lt f_q28
  have m_q35 := hF.lt f_q35
  have m_q32 := hF.lt f_q32
  have m_q42 := hF.lt f_q42
  have m_q39 := hF.lt f_q39
  have m_q49 := hF.lt f_q49
  have m_q46 := hF.lt f_q46
  have m_q56 := hF.lt f_q56
  have m_q53 := hF.lt f_q53
  have m_q62 := hF.lt f_q62
  have m_q69 := hF.lt f_q69
  have m_q66 := hF.lt f_q66
  have m_q76 := hF.lt f_q76
  have m_q73 := hF.lt f_q73
  have m_q83 := hF.lt f_q83
  have m_q80 := hF.lt f_q80
  have m_q90 := hF.lt f_q90
  have m_q87 := hF.lt f_q87
  have m_q96 := hF.lt f_q96
  have m_q103 := hF.lt f_q103
  have m_q100 := hF.lt f_q100
  have m_q4 := hF.lt f_q4
  have m_q110 := hF.lt f_q110
  have m_q107 := hF.lt f_q107
  have m_q7 := hF.lt f_q7
  have m_q117 := hF.lt f_q117
  have m_q114 := hF.lt f_q114
  have m_q10 := hF.lt f_q10
  have m_q124 := hF.lt f_q124
  have m_q121 := hF.lt f_q121
  have m_q13 := hF.lt f_q13
  have m_q16 := hF.lt f_q16
  have m_q130 := hF.lt f_q130
  have m_q1 := hF.lt f_q1
  have m_q134 := hF.lt f_q134
  refine fw_callIN (As := []) (rest := [.ref q134, .int 3, .ref q4]) X bs_all nw_all mf_X0_init (c_X0_init l D cs _ _ q134 f_q134) nm_115 wm_116 rfl hF hS rfl ((⟨⟨Nat.le_of_ble_eq_true rfl, Nat.le_of_ble_eq_true rfl⟩, Nat.le_of_ble_eq_true rfl, Nat.le_of_ble_eq_true rfl⟩)) rfl hl.1 rfl (Nat.le_of_ble_eq_true rfl) dX8_init_99 (fun v u136 H locs hp hF hS hz1 hk1 hd1 => ?_)
  obtain ⟨hv1, q137, nq137, hw1⟩ := hp
  subst hv1
  have leq137 := (hd1 q137 (by rw [hw1, va_up_ne _ _ (Ne.symm (gx_ne f_q134 nq137)), va_up_self]; exact fun z => by cases z)).resolve_left (fun z => z nq137)
  have l_q19_q137 : q19 < q137 := Nat.lt_of_lt_of_le m_q19 leq137
  have l_q22_q137 : q22 < q137 := Nat.lt_of_lt_of_le m_q22 leq137
  have l_h0_q137 : h0 < q137 := Nat.lt_of_lt_of_le m_h0 leq137
  have l_q28_q137 : q28 < q137 := Nat.lt_of_lt_of_le m_q28 leq137
  have l_q35_q137 : q35 < q137 := Nat.lt_of_lt_of_le m_q35 leq137
  have l_q32_q137 : q32 < q137 := Nat.lt_of_lt_of_le m_q32 leq137
  have l_q42_q137 : q42 < q137 := Nat.lt_of_lt_of_le m_q42 leq137
  have l_q39_q137 : q39 < q137 := Nat.lt_of_lt_of_le m_q39 leq137
  have l_q49_q137 : q49 < q137 := Nat.lt_of_lt_of_le m_q49 leq137
  have l_q46_q137 : q46 < q137 := Nat.lt_of_lt_of_le m_q46 leq137
  have l_q56_q137 : q56 < q137 := Nat.lt_of_lt_of_le m_q56 leq137
  have l_q53_q137 : q53 < q137 := Nat.lt_of_lt_of_le m_q53 leq137
  have l_q62_q137 : q62 < q137 := Nat.lt_of_lt_of_le m_q62 leq137
  have l_q69_q137 : q69 < q137 := Nat.lt_of_lt_of_le m_q69 leq137
  have l_q66_q137 : q66 < q137 := Nat.lt_of_lt_of_le m_q66 leq137
  have l_q76_q137 : q76 < q137 := Nat.lt_of_lt_of_le m_q76 leq137
  have l_q73_q137 : q73 < q137 := Nat.lt_of_lt_of_le m_q73 leq137
  have l_q83_q137 : q83 < q137 := Nat.lt_of_lt_of_le m_q83 leq137
  have l_q80_q137 : q80 < q137 := Nat.lt_of_lt_of_le m_q80 leq137
  have l_q90_q137 : q90 < q137 := Nat.lt_of_lt_of_le m_q90 leq137
  have l_q87_q137 : q87 < q137 := Nat.lt_of_lt_of_le m_q87 leq137
  have l_q96_q137 : q96 < q137 := Nat.lt_of_lt_of_le m_q96 leq137
  have l_q103_q137 : q103 < q137 := Nat.lt_of_lt_of_le m_q103 leq137
  have l_q100_q137 : q100 < q137 := Nat.lt_of_lt_of_le m_q100 leq137
  have l_q4_q137 : q4 < q137 := Nat.lt_of_lt_of_le m_q4 leq137
  have l_q110_q137 : q110 < q137 := Nat.lt_of_lt_of_le m_q110 leq137
  have l_q107_q137 : q107 < q137 := Nat.lt_of_lt_of_le m_q107 leq137
  have l_q7_q137 : q7 < q137 := Nat.lt_of_lt_of_le m_q7 leq137
  have l_q117_q137 : q117 < q137 := Nat.lt_of_lt_of_le m_q117 leq137
  have l_q114_q137 : q114 < q137 := Nat.lt_of_lt_of_le m_q114 leq137
  have l_q10_q137 : q10 < q137 := Nat.lt_of_lt_of_le m_q10 leq137
  have l_q124_q137 : q124 < q137 := Nat.lt_of_lt_of_le m_q124 leq137
  have l_q121_q137 : q121 < q137 := Nat.lt_of_lt_of_le m_q121 leq137
  have l_q13_q137 : q13 < q137 := Nat.lt_of_lt_of_le m_q13 leq137
  have l_q16_q137 : q16 < q137 := Nat.lt_of_lt_of_le m_q16 leq137
  have l_q130_q137 : q130 < q137 := Nat.lt_of_lt_of_le m_q130 leq137
  have l_q1_q137 : q1 < q137 := Nat.lt_of_lt_of_le m_q1 leq137
  have l_q134_q137 : q134 < q137 := Nat.lt_of_lt_of_le m_q134 leq137
  clear m_q19 m_q22 m_h0 m_q28 m_q35 m_q32 m_q42 m_q39 m_q49 m_q46 m_q56 m_q53 m_q62 m_q69 m_q66 m_q76 m_q73 m_q83 m_q80 m_q90 m_q87 m_q96 m_q103 m_q100 m_q4 m_q110 m_q107 m_q7 m_q117 m_q114 m_q10 m_q124 m_q121 m_q13 m_q16 m_q130 m_q1 m_q134
  rw [hw1] at hF
  clear hw1 hd1 hk1
  obtain ⟨u138, hu138⟩ : ∃ y : fW, y = va_up u135 q137 (some (.inl (cs 0, 12, .inl (fun _ => 0)))) := ⟨_, rfl⟩
  rw [← hu138] at hF
  replace f_q19 : u138 q19 = some (.inl (cs 0, 8, .inl (fun _ => 0))) := by rw [hu138]; exact (va_up_ne _ _ (Nat.ne_of_lt l_q19_q137)).trans f_q19
  replace f_q22 : u138 q22 = some (.inr (4, [.int 0, .int 0, .int 0, .int (-1), .int 0, .long 0])) := by rw [hu138]; exact (va_up_ne _ _ (Nat.ne_of_lt l_q22_q137)).trans f_q22
  replace f_h0 : u138 h0 = some (.inr (8, [.ref q1, .ref q4, .ref q7, .ref q10, .ref q13, .ref q16, .ref q19, .ref q22])) := by rw [hu138]; exact (va_up_ne _ _ (Nat.ne_of_lt l_h0_q137)).trans f_h0
  replace f_q28 : u138 q28 = some (.inr (5, [.int 0, .int 0, .null, .null, .int 0, .int 0])) := by rw [hu138]; exact (va_up_ne _ _ (Nat.ne_of_lt l_q28_q137)).trans f_q28
  replace f_q35 : u138 q35 = some (.inl (cs 0, 12, .inl (fun _ => 0))) := by rw [hu138]; exact (va_up_ne _ _ (Nat.ne_of_lt l_q35_q137)).trans f_q35
  replace f_q32 : u138 q32 = some (.inr (0, [.ref q35, .int (-1)])) := by rw [hu138]; exact (va_up_ne _ _ (Nat.ne_of_lt l_q32_q137)).trans f_q32
  replace f_q42 : u138 q42 = some (.inl (cs 7, 12, .inr (.inr (.inr (.inr (fun _ => none)))))) := by rw [hu138]; exact (va_up_ne _ _ (Nat.ne_of_lt l_q42_q137)).trans f_q42
  replace f_q39 : u138 q39 = some (.inr (3, [.ref q42, .int (-1), .int 0])) := by rw [hu138]; exact (va_up_ne _ _ (Nat.ne_of_lt l_q39_q137)).trans f_q39
  replace f_q49 : u138 q49 = some (.inl (cs 0, 144, .inl (fun _ => 0))) := by rw [hu138]; exact (va_up_ne _ _ (Nat.ne_of_lt l_q49_q137)).trans f_q49
  replace f_q46 : u138 q46 = some (.inr (1, [.ref q49, .int (-1), .int 0])) := by rw [hu138]; exact (va_up_ne _ _ (Nat.ne_of_lt l_q46_q137)).trans f_q46
  replace f_q56 : u138 q56 = some (.inl (cs 8, 16, .inr (.inr (.inr (.inr (fun _ => none)))))) := by rw [hu138]; exact (va_up_ne _ _ (Nat.ne_of_lt l_q56_q137)).trans f_q56
  replace f_q53 : u138 q53 = some (.inr (2, [.ref q56, .int 0])) := by rw [hu138]; exact (va_up_ne _ _ (Nat.ne_of_lt l_q53_q137)).trans f_q53
  replace f_q62 : u138 q62 = some (.inr (5, [.int 0, .int 0, .null, .null, .int 0, .int 0])) := by rw [hu138]; exact (va_up_ne _ _ (Nat.ne_of_lt l_q62_q137)).trans f_q62
  replace f_q69 : u138 q69 = some (.inl (cs 0, 12, .inl (fun _ => 0))) := by rw [hu138]; exact (va_up_ne _ _ (Nat.ne_of_lt l_q69_q137)).trans f_q69
  replace f_q66 : u138 q66 = some (.inr (0, [.ref q69, .int (-1)])) := by rw [hu138]; exact (va_up_ne _ _ (Nat.ne_of_lt l_q66_q137)).trans f_q66
  replace f_q76 : u138 q76 = some (.inl (cs 7, 12, .inr (.inr (.inr (.inr (fun _ => none)))))) := by rw [hu138]; exact (va_up_ne _ _ (Nat.ne_of_lt l_q76_q137)).trans f_q76
  replace f_q73 : u138 q73 = some (.inr (3, [.ref q76, .int (-1), .int 0])) := by rw [hu138]; exact (va_up_ne _ _ (Nat.ne_of_lt l_q73_q137)).trans f_q73
  replace f_q83 : u138 q83 = some (.inl (cs 0, 144, .inl (fun _ => 0))) := by rw [hu138]; exact (va_up_ne _ _ (Nat.ne_of_lt l_q83_q137)).trans f_q83
  replace f_q80 : u138 q80 = some (.inr (1, [.ref q83, .int (-1), .int 0])) := by rw [hu138]; exact (va_up_ne _ _ (Nat.ne_of_lt l_q80_q137)).trans f_q80
  replace f_q90 : u138 q90 = some (.inl (cs 8, 16, .inr (.inr (.inr (.inr (fun _ => none)))))) := by rw [hu138]; exact (va_up_ne _ _ (Nat.ne_of_lt l_q90_q137)).trans f_q90
  replace f_q87 : u138 q87 = some (.inr (2, [.ref q90, .int 0])) := by rw [hu138]; exact (va_up_ne _ _ (Nat.ne_of_lt l_q87_q137)).trans f_q87
  replace f_q96 : u138 q96 = some (.inr (5, [.int 0, .int 0, .null, .null, .int 0, .int 0])) := by rw [hu138]; exact (va_up_ne _ _ (Nat.ne_of_lt l_q96_q137)).trans f_q96
  replace f_q103 : u138 q103 = some (.inl (cs 0, 12, .inl (fun _ => 0))) := by rw [hu138]; exact (va_up_ne _ _ (Nat.ne_of_lt l_q103_q137)).trans f_q103
  replace f_q100 : u138 q100 = some (.inr (0, [.ref q103, .int (-1)])) := by rw [hu138]; exact (va_up_ne _ _ (Nat.ne_of_lt l_q100_q137)).trans f_q100
  replace f_q4 : u138 q4 = some (.inl (cs 3, 4, .inr (.inr (.inr (.inr (va_up (va_up (va_up (fun _ => none) 0 (some q32)) 1 (some q66)) 2 (some q100))))))) := by rw [hu138]; exact (va_up_ne _ _ (Nat.ne_of_lt l_q4_q137)).trans f_q4
  replace f_q110 : u138 q110 = some (.inl (cs 7, 12, .inr (.inr (.inr (.inr (fun _ => none)))))) := by rw [hu138]; exact (va_up_ne _ _ (Nat.ne_of_lt l_q110_q137)).trans f_q110
  replace f_q107 : u138 q107 = some (.inr (3, [.ref q110, .int (-1), .int 0])) := by rw [hu138]; exact (va_up_ne _ _ (Nat.ne_of_lt l_q107_q137)).trans f_q107
  replace f_q7 : u138 q7 = some (.inl (cs 4, 4, .inr (.inr (.inr (.inr (va_up (va_up (va_up (fun _ => none) 0 (some q39)) 1 (some q73)) 2 (some q107))))))) := by rw [hu138]; exact (va_up_ne _ _ (Nat.ne_of_lt l_q7_q137)).trans f_q7
  replace f_q117 : u138 q117 = some (.inl (cs 0, 144, .inl (fun _ => 0))) := by rw [hu138]; exact (va_up_ne _ _ (Nat.ne_of_lt l_q117_q137)).trans f_q117
  replace f_q114 : u138 q114 = some (.inr (1, [.ref q117, .int (-1), .int 0])) := by rw [hu138]; exact (va_up_ne _ _ (Nat.ne_of_lt l_q114_q137)).trans f_q114
  replace f_q10 : u138 q10 = some (.inl (cs 5, 4, .inr (.inr (.inr (.inr (va_up (va_up (va_up (fun _ => none) 0 (some q46)) 1 (some q80)) 2 (some q114))))))) := by rw [hu138]; exact (va_up_ne _ _ (Nat.ne_of_lt l_q10_q137)).trans f_q10
  replace f_q124 : u138 q124 = some (.inl (cs 8, 16, .inr (.inr (.inr (.inr (fun _ => none)))))) := by rw [hu138]; exact (va_up_ne _ _ (Nat.ne_of_lt l_q124_q137)).trans f_q124
  replace f_q121 : u138 q121 = some (.inr (2, [.ref q124, .int 0])) := by rw [hu138]; exact (va_up_ne _ _ (Nat.ne_of_lt l_q121_q137)).trans f_q121
  replace f_q13 : u138 q13 = some (.inl (cs 6, 4, .inr (.inr (.inr (.inr (va_up (va_up (va_up (fun _ => none) 0 (some q53)) 1 (some q87)) 2 (some q121))))))) := by rw [hu138]; exact (va_up_ne _ _ (Nat.ne_of_lt l_q13_q137)).trans f_q13
  replace f_q16 : u138 q16 = some (.inl (cs 0, 4, .inl (upd (upd (upd (fun _ => 0) 0 1) 1 1) 2 1))) := by rw [hu138]; exact (va_up_ne _ _ (Nat.ne_of_lt l_q16_q137)).trans f_q16
  replace f_q130 : u138 q130 = some (.inr (5, [.int 0, .int 0, .null, .null, .int 0, .int 0])) := by rw [hu138]; exact (va_up_ne _ _ (Nat.ne_of_lt l_q130_q137)).trans f_q130
  replace f_q1 : u138 q1 = some (.inl (cs 2, 4, .inr (.inr (.inr (.inr (va_up (va_up (va_up (va_up (fun _ => none) 0 (some q28)) 1 (some q62)) 2 (some q96)) 3 (some q130))))))) := by rw [hu138]; exact (va_up_ne _ _ (Nat.ne_of_lt l_q1_q137)).trans f_q1
  replace f_q134 : u138 q134 = some (.inr (0, [.null, .int 0])) := by rw [hu138]; exact (va_up_ne _ _ (Nat.ne_of_lt l_q134_q137)).trans f_q134
  have f_q137 : u138 q137 = some (.inl (cs 0, 12, .inl (fun _ => 0))) := by rw [hu138]; exact va_up_self _ _ _
  obtain ⟨u139, hu139⟩ : ∃ y : fW, y = va_up u138 q134 (some (.inr (0, [.ref q137, .int (-1)]))) := ⟨_, rfl⟩
  rw [← hu139] at hF
  replace f_q19 : u139 q19 = some (.inl (cs 0, 8, .inl (fun _ => 0))) := by rw [hu139]; exact (va_up_ne _ _ (Nat.ne_of_lt l_q19_q134)).trans f_q19
  replace f_q22 : u139 q22 = some (.inr (4, [.int 0, .int 0, .int 0, .int (-1), .int 0, .long 0])) := by rw [hu139]; exact (va_up_ne _ _ (Nat.ne_of_lt l_q22_q134)).trans f_q22
  replace f_h0 : u139 h0 = some (.inr (8, [.ref q1, .ref q4, .ref q7, .ref q10, .ref q13, .ref q16, .ref q19, .ref q22])) := by rw [hu139]; exact (va_up_ne _ _ (Nat.ne_of_lt l_h0_q134)).trans f_h0
  replace f_q28 : u139 q28 = some (.inr (5, [.int 0, .int 0, .null, .null, .int 0, .int 0])) := by rw [hu139]; exact (va_up_ne _ _ (Nat.ne_of_lt l_q28_q134)).trans f_q28
  replace f_q35 : u139 q35 = some (.inl (cs 0, 12, .inl (fun _ => 0))) := by rw [hu139]; exact (va_up_ne _ _ (Nat.ne_of_lt l_q35_q134)).trans f_q35
  replace f_q32 : u139 q32 = some (.inr (0, [.ref q35, .int (-1)])) := by rw [hu139]; exact (va_up_ne _ _ (Nat.ne_of_lt l_q32_q134)).trans f_q32
  replace f_q42 : u139 q42 = some (.inl (cs 7, 12, .inr (.inr (.inr (.inr (fun _ => none)))))) := by rw [hu139]; exact (va_up_ne _ _ (Nat.ne_of_lt l_q42_q134)).trans f_q42
  replace f_q39 : u139 q39 = some (.inr (3, [.ref q42, .int (-1), .int 0])) := by rw [hu139]; exact (va_up_ne _ _ (Nat.ne_of_lt l_q39_q134)).trans f_q39
  replace f_q49 : u139 q49 = some (.inl (cs 0, 144, .inl (fun _ => 0))) := by rw [hu139]; exact (va_up_ne _ _ (Nat.ne_of_lt l_q49_q134)).trans f_q49
  replace f_q46 : u139 q46 = some (.inr (1, [.ref q49, .int (-1), .int 0])) := by rw [hu139]; exact (va_up_ne _ _ (Nat.ne_of_lt l_q46_q134)).trans f_q46
  replace f_q56 : u139 q56 = some (.inl (cs 8, 16, .inr (.inr (.inr (.inr (fun _ => none)))))) := by rw [hu139]; exact (va_up_ne _ _ (Nat.ne_of_lt l_q56_q134)).trans f_q56
  replace f_q53 : u139 q53 = some (.inr (2, [.ref q56, .int 0])) := by rw [hu139]; exact (va_up_ne _ _ (Nat.ne_of_lt l_q53_q134)).trans f_q53
  replace f_q62 : u139 q62 = some (.inr (5, [.int 0, .int 0, .null, .null, .int 0, .int 0])) := by rw [hu139]; exact (va_up_ne _ _ (Nat.ne_of_lt l_q62_q134)).trans f_q62
  replace f_q69 : u139 q69 = some (.inl (cs 0, 12, .inl (fun _ => 0))) := by rw [hu139]; exact (va_up_ne _ _ (Nat.ne_of_lt l_q69_q134)).trans f_q69
  replace f_q66 : u139 q66 = some (.inr (0, [.ref q69, .int (-1)])) := by rw [hu139]; exact (va_up_ne _ _ (Nat.ne_of_lt l_q66_q134)).trans f_q66
  replace f_q76 : u139 q76 = some (.inl (cs 7, 12, .inr (.inr (.inr (.inr (fun _ => none)))))) := by rw [hu139]; exact (va_up_ne _ _ (Nat.ne_of_lt l_q76_q134)).trans f_q76
  replace f_q73 : u139 q73 = some (.inr (3, [.ref q76, .int (-1), .int 0])) := by rw [hu139]; exact (va_up_ne _ _ (Nat.ne_of_lt l_q73_q134)).trans f_q73
  replace f_q83 : u139 q83 = some (.inl (cs 0, 144, .inl (fun _ => 0))) := by rw [hu139]; exact (va_up_ne _ _ (Nat.ne_of_lt l_q83_q134)).trans f_q83
  replace f_q80 : u139 q80 = some (.inr (1, [.ref q83, .int (-1), .int 0])) := by rw [hu139]; exact (va_up_ne _ _ (Nat.ne_of_lt l_q80_q134)).trans f_q80
  replace f_q90 : u139 q90 = some (.inl (cs 8, 16, .inr (.inr (.inr (.inr (fun _ => none)))))) := by rw [hu139]; exact (va_up_ne _ _ (Nat.ne_of_lt l_q90_q134)).trans f_q90
  replace f_q87 : u139 q87 = some (.inr (2, [.ref q90, .int 0])) := by rw [hu139]; exact (va_up_ne _ _ (Nat.ne_of_lt l_q87_q134)).trans f_q87
  replace f_q96 : u139 q96 = some (.inr (5, [.int 0, .int 0, .null, .null, .int 0, .int 0])) := by rw [hu139]; exact (va_up_ne _ _ (Nat.ne_of_lt l_q96_q134)).trans f_q96
  replace f_q103 : u139 q103 = some (.inl (cs 0, 12, .inl (fun _ => 0))) := by rw [hu139]; exact (va_up_ne _ _ (Nat.ne_of_lt l_q103_q134)).trans f_q103
  replace f_q100 : u139 q100 = some (.inr (0, [.ref q103, .int (-1)])) := by rw [hu139]; exact (va_up_ne _ _ (Nat.ne_of_lt l_q100_q134)).trans f_q100
  replace f_q4 : u139 q4 = some (.inl (cs 3, 4, .inr (.inr (.inr (.inr (va_up (va_up (va_up (fun _ => none) 0 (some q32)) 1 (some q66)) 2 (some q100))))))) := by rw [hu139]; exact (va_up_ne _ _ (Nat.ne_of_lt l_q4_q134)).trans f_q4
  replace f_q110 : u139 q110 = some (.inl (cs 7, 12, .inr (.inr (.inr (.inr (fun _ => none)))))) := by rw [hu139]; exact (va_up_ne _ _ (Nat.ne_of_lt l_q110_q134)).trans f_q110
  replace f_q107 : u139 q107 = some (.inr (3, [.ref q110, .int (-1), .int 0])) := by rw [hu139]; exact (va_up_ne _ _ (Nat.ne_of_lt l_q107_q134)).trans f_q107
  replace f_q7 : u139 q7 = some (.inl (cs 4, 4, .inr (.inr (.inr (.inr (va_up (va_up (va_up (fun _ => none) 0 (some q39)) 1 (some q73)) 2 (some q107))))))) := by rw [hu139]; exact (va_up_ne _ _ (Nat.ne_of_lt l_q7_q134)).trans f_q7
  replace f_q117 : u139 q117 = some (.inl (cs 0, 144, .inl (fun _ => 0))) := by rw [hu139]; exact (va_up_ne _ _ (Nat.ne_of_lt l_q117_q134)).trans f_q117
  replace f_q114 : u139 q114 = some (.inr (1, [.ref q117, .int (-1), .int 0])) := by rw [hu139]; exact (va_up_ne _ _ (Nat.ne_of_lt l_q114_q134)).trans f_q114
  replace f_q10 : u139 q10 = some (.inl (cs 5, 4, .inr (.inr (.inr (.inr (va_up (va_up (va_up (fun _ => none) 0 (some q46)) 1 (some q80)) 2 (some q114))))))) := by rw [hu139]; exact (va_up_ne _ _ (Nat.ne_of_lt l_q10_q134)).trans f_q10
  replace f_q124 : u139 q124 = some (.inl (cs 8, 16, .inr (.inr (.inr (.inr (fun _ => none)))))) := by rw [hu139]; exact (va_up_ne _ _ (Nat.ne_of_lt l_q124_q134)).trans f_q124
  replace f_q121 : u139 q121 = some (.inr (2, [.ref q124, .int 0])) := by rw [hu139]; exact (va_up_ne _ _ (Nat.ne_of_lt l_q121_q134)).trans f_q121
  replace f_q13 : u139 q13 = some (.inl (cs 6, 4, .inr (.inr (.inr (.inr (va_up (va_up (va_up (fun _ => none) 0 (some q53)) 1 (some q87)) 2 (some q121))))))) := by rw [hu139]; exact (va_up_ne _ _ (Nat.ne_of_lt l_q13_q134)).trans f_q13
  replace f_q16 : u139 q16 = some (.inl (cs 0, 4, .inl (upd (upd (upd (fun _ => 0) 0 1) 1 1) 2 1))) := by rw [hu139]; exact (va_up_ne _ _ (Nat.ne_of_lt l_q16_q134)).trans f_q16
  replace f_q130 : u139 q130 = some (.inr (5, [.int 0, .int 0, .null, .null, .int 0, .int 0])) := by rw [hu139]; exact (va_up_ne _ _ (Nat.ne_of_lt l_q130_q134)).trans f_q130
  replace f_q1 : u139 q1 = some (.inl (cs 2, 4, .inr (.inr (.inr (.inr (va_up (va_up (va_up (va_up (fun _ => none) 0 (some q28)) 1 (some q62)) 2 (some q96)) 3 (some q130))))))) := by rw [hu139]; exact (va_up_ne _ _ (Nat.ne_of_lt l_q1_q134)).trans f_q1
  replace f_q137 : u139 q137 = some (.inl (cs 0, 12, .inl (fun _ => 0))) := by rw [hu139]; exact (va_up_ne _ _ (Nat.ne_of_gt l_q134_q137)).trans f_q137
  replace f_q134 : u139 q134 = some (.inr (0, [.ref q137, .int (-1)])) := by rw [hu139]; exact va_up_self _ _ _
  refine W.eq (g2 := F0 m 102 ls [.ref q134, .int 3, .ref q4]) rfl ?_
  refine fw_astq X hF hS f_q4 3 rfl f_q134 rfl (vp_in_iff.mpr (by decide)) dX8_init_102 (fun H locs hF hS => ?_)
  have hF : fw_P D cls10 A (va_up u139 q4 (some (.inl (cs 3, 4, .inr (.inr (.inr (.inr (va_up (va_up (va_up (va_up (fun _ => none) 0 (some q32)) 1 (some q66)) 2 (some q100)) 3 (some q134))))))))) H := hF
  obtain ⟨u140, hu140⟩ : ∃ y : fW, y = va_up u139 q4 (some (.inl (cs 3, 4, .inr (.inr (.inr (.inr (va_up (va_up (va_up (va_up (fun _ => none) 0 (some q32)) 1 (some q66)) 2 (some q100)) 3 (some q134)))))))) := ⟨_, rfl⟩
  rw [← hu140] at hF
  replace f_q19 : u140 q19 = some (.inl (cs 0, 8, .inl (fun _ => 0))) := by rw [hu140]; exact (va_up_ne _ _ (Nat.ne_of_gt l_q4_q19)).trans f_q19
  replace f_q22 : u140 q22 = some (.inr (4, [.int 0, .int 0, .int 0, .int (-1), .int 0, .long 0])) := by rw [hu140]; exact (va_up_ne _ _ (Nat.ne_of_gt l_q4_q22)).trans f_q22
  replace f_h0 : u140 h0 = some (.inr (8, [.ref q1, .ref q4, .ref q7, .ref q10, .ref q13, .ref q16, .ref q19, .ref q22])) := by rw [hu140]; exact (va_up_ne _ _ (Nat.ne_of_lt l_h0_q4)).trans f_h0
  replace f_q28 : u140 q28 = some (.inr (5, [.int 0, .int 0, .null, .null, .int 0, .int 0])) := by rw [hu140]; exact (va_up_ne _ _ (Nat.ne_of_gt l_q4_q28)).trans f_q28
  replace f_q35 : u140 q35 = some (.inl (cs 0, 12, .inl (fun _ => 0))) := by rw [hu140]; exact (va_up_ne _ _ (Nat.ne_of_gt l_q4_q35)).trans f_q35
  replace f_q32 : u140 q32 = some (.inr (0, [.ref q35, .int (-1)])) := by rw [hu140]; exact (va_up_ne _ _ (Nat.ne_of_gt l_q4_q32)).trans f_q32
  replace f_q42 : u140 q42 = some (.inl (cs 7, 12, .inr (.inr (.inr (.inr (fun _ => none)))))) := by rw [hu140]; exact (va_up_ne _ _ (Nat.ne_of_gt l_q4_q42)).trans f_q42
  replace f_q39 : u140 q39 = some (.inr (3, [.ref q42, .int (-1), .int 0])) := by rw [hu140]; exact (va_up_ne _ _ (Nat.ne_of_gt l_q4_q39)).trans f_q39
  replace f_q49 : u140 q49 = some (.inl (cs 0, 144, .inl (fun _ => 0))) := by rw [hu140]; exact (va_up_ne _ _ (Nat.ne_of_gt l_q4_q49)).trans f_q49
  replace f_q46 : u140 q46 = some (.inr (1, [.ref q49, .int (-1), .int 0])) := by rw [hu140]; exact (va_up_ne _ _ (Nat.ne_of_gt l_q4_q46)).trans f_q46
  replace f_q56 : u140 q56 = some (.inl (cs 8, 16, .inr (.inr (.inr (.inr (fun _ => none)))))) := by rw [hu140]; exact (va_up_ne _ _ (Nat.ne_of_gt l_q4_q56)).trans f_q56
  replace f_q53 : u140 q53 = some (.inr (2, [.ref q56, .int 0])) := by rw [hu140]; exact (va_up_ne _ _ (Nat.ne_of_gt l_q4_q53)).trans f_q53
  replace f_q62 : u140 q62 = some (.inr (5, [.int 0, .int 0, .null, .null, .int 0, .int 0])) := by rw [hu140]; exact (va_up_ne _ _ (Nat.ne_of_gt l_q4_q62)).trans f_q62
  replace f_q69 : u140 q69 = some (.inl (cs 0, 12, .inl (fun _ => 0))) := by rw [hu140]; exact (va_up_ne _ _ (Nat.ne_of_gt l_q4_q69)).trans f_q69
  replace f_q66 : u140 q66 = some (.inr (0, [.ref q69, .int (-1)])) := by rw [hu140]; exact (va_up_ne _ _ (Nat.ne_of_gt l_q4_q66)).trans f_q66
  replace f_q76 : u140 q76 = some (.inl (cs 7, 12, .inr (.inr (.inr (.inr (fun _ => none)))))) := by rw [hu140]; exact (va_up_ne _ _ (Nat.ne_of_gt l_q4_q76)).trans f_q76
  replace f_q73 : u140 q73 = some (.inr (3, [.ref q76, .int (-1), .int 0])) := by rw [hu140]; exact (va_up_ne _ _ (Nat.ne_of_gt l_q4_q73)).trans f_q73
  replace f_q83 : u140 q83 = some (.inl (cs 0, 144, .inl (fun _ => 0))) := by rw [hu140]; exact (va_up_ne _ _ (Nat.ne_of_gt l_q4_q83)).trans f_q83
  replace f_q80 : u140 q80 = some (.inr (1, [.ref q83, .int (-1), .int 0])) := by rw [hu140]; exact (va_up_ne _ _ (Nat.ne_of_gt l_q4_q80)).trans f_q80
  replace f_q90 : u140 q90 = some (.inl (cs 8, 16, .inr (.inr (.inr (.inr (fun _ => none)))))) := by rw [hu140]; exact (va_up_ne _ _ (Nat.ne_of_gt l_q4_q90)).trans f_q90
  replace f_q87 : u140 q87 = some (.inr (2, [.ref q90, .int 0])) := by rw [hu140]; exact (va_up_ne _ _ (Nat.ne_of_gt l_q4_q87)).trans f_q87
  replace f_q96 : u140 q96 = some (.inr (5, [.int 0, .int 0, .null, .null, .int 0, .int 0])) := by rw [hu140]; exact (va_up_ne _ _ (Nat.ne_of_gt l_q4_q96)).trans f_q96
  replace f_q103 : u140 q103 = some (.inl (cs 0, 12, .inl (fun _ => 0))) := by rw [hu140]; exact (va_up_ne _ _ (Nat.ne_of_gt l_q4_q103)).trans f_q103
  replace f_q100 : u140 q100 = some (.inr (0, [.ref q103, .int (-1)])) := by rw [hu140]; exact (va_up_ne _ _ (Nat.ne_of_gt l_q4_q100)).trans f_q100
  replace f_q110 : u140 q110 = some (.inl (cs 7, 12, .inr (.inr (.inr (.inr (fun _ => none)))))) := by rw [hu140]; exact (va_up_ne _ _ (Nat.ne_of_gt l_q4_q110)).trans f_q110
  replace f_q107 : u140 q107 = some (.inr (3, [.ref q110, .int (-1), .int 0])) := by rw [hu140]; exact (va_up_ne _ _ (Nat.ne_of_gt l_q4_q107)).trans f_q107
  replace f_q7 : u140 q7 = some (.inl (cs 4, 4, .inr (.inr (.inr (.inr (va_up (va_up (va_up (fun _ => none) 0 (some q39)) 1 (some q73)) 2 (some q107))))))) := by rw [hu140]; exact (va_up_ne _ _ (Nat.ne_of_gt l_q4_q7)).trans f_q7
  replace f_q117 : u140 q117 = some (.inl (cs 0, 144, .inl (fun _ => 0))) := by rw [hu140]; exact (va_up_ne _ _ (Nat.ne_of_gt l_q4_q117)).trans f_q117
  replace f_q114 : u140 q114 = some (.inr (1, [.ref q117, .int (-1), .int 0])) := by rw [hu140]; exact (va_up_ne _ _ (Nat.ne_of_gt l_q4_q114)).trans f_q114
  replace f_q10 : u140 q10 = some (.inl (cs 5, 4, .inr (.inr (.inr (.inr (va_up (va_up (va_up (fun _ => none) 0 (some q46)) 1 (some q80)) 2 (some q114))))))) := by rw [hu140]; exact (va_up_ne _ _ (Nat.ne_of_gt l_q4_q10)).trans f_q10
  replace f_q124 : u140 q124 = some (.inl (cs 8, 16, .inr (.inr (.inr (.inr (fun _ => none)))))) := by rw [hu140]; exact (va_up_ne _ _ (Nat.ne_of_gt l_q4_q124)).trans f_q124
  replace f_q121 : u140 q121 = some (.inr (2, [.ref q124, .int 0])) := by rw [hu140]; exact (va_up_ne _ _ (Nat.ne_of_gt l_q4_q121)).trans f_q121
  replace f_q13 : u140 q13 = some (.inl (cs 6, 4, .inr (.inr (.inr (.inr (va_up (va_up (va_up (fun _ => none) 0 (some q53)) 1 (some q87)) 2 (some q121))))))) := by rw [hu140]; exact (va_up_ne _ _ (Nat.ne_of_gt l_q4_q13)).trans f_q13
  replace f_q16 : u140 q16 = some (.inl (cs 0, 4, .inl (upd (upd (upd (fun _ => 0) 0 1) 1 1) 2 1))) := by rw [hu140]; exact (va_up_ne _ _ (Nat.ne_of_gt l_q4_q16)).trans f_q16
  replace f_q130 : u140 q130 = some (.inr (5, [.int 0, .int 0, .null, .null, .int 0, .int 0])) := by rw [hu140]; exact (va_up_ne _ _ (Nat.ne_of_gt l_q4_q130)).trans f_q130
  replace f_q1 : u140 q1 = some (.inl (cs 2, 4, .inr (.inr (.inr (.inr (va_up (va_up (va_up (va_up (fun _ => none) 0 (some q28)) 1 (some q62)) 2 (some q96)) 3 (some q130))))))) := by rw [hu140]; exact (va_up_ne _ _ (Nat.ne_of_lt l_q1_q4)).trans f_q1
  replace f_q137 : u140 q137 = some (.inl (cs 0, 12, .inl (fun _ => 0))) := by rw [hu140]; exact (va_up_ne _ _ (Nat.ne_of_gt l_q4_q137)).trans f_q137
  replace f_q134 : u140 q134 = some (.inr (0, [.ref q137, .int (-1)])) := by rw [hu140]; exact (va_up_ne _ _ (Nat.ne_of_gt l_q4_q134)).trans f_q134
  replace f_q4 : u140 q4 = some (.inl (cs 3, 4, .inr (.inr (.inr (.inr (va_up (va_up (va_up (va_up (fun _ => none) 0 (some q32)) 1 (some q66)) 2 (some q100)) 3 (some q134))))))) := by rw [hu140]; exact va_up_self _ _ _
  refine lv_aload_n hx hb dX8_init_103 rfl (lv_at hl 1 rfl) ?_
  refine fw_get X gC_ok hF f_h0 rfl 2 (by decide) wm_178 rfl dX8_init_104 ?_
  refine lv_iload_n hx hb dX8_init_107 rfl (lv_at hl 0 rfl) ?_
  have m_q19 := hF.lt f_q19
  have m_q22 := hF.lt f_q22
  have m_h0 := hF.lt f_h0
  have m_q28 := hF.lt f_q28
  have m_q35 := hF.lt f_q35
  have m_q32 := hF.lt f_q32
  have m_q42 := hF.lt f_q42
  have m_q39 := hF.lt f_q39
  have m_q49 := hF.lt f_q49
  have m_q46 := hF.lt f_q46
  have m_q56 := hF.lt f_q56
  have m_q53 := hF.lt f_q53
  have m_q62 := hF.lt f_q62
  have m_q69 := hF.lt f_q69
  have m_q66 := hF.lt f_q66
  have m_q76 := hF.lt f_q76
  have m_q73 := hF.lt f_q73
  have m_q83 := hF.lt f_q83
  have m_q80 := hF.lt f_q80
  have m_q90 := hF.lt f_q90
  have m_q87 := hF.lt f_q87
  have m_q96 := hF.lt f_q96
  have m_q103 := hF.lt f_q103
  have m_q100 := hF.lt f_q100
  have m_q110 := hF.lt f_q110
  have m_q107 := hF.lt f_q107
  have m_q7 := hF.lt f_q7
  have m_q117 := hF.lt f_q117
  have m_q114 := hF.lt f_q114
  have m_q10 := hF.lt f_q10
  have m_q124 := hF.lt f_q124
  have m_q121 := hF.lt f_q121
  have m_q13 := hF.lt f_q13
  have m_q16 := hF.lt f_q16
  have m_q130 := hF.lt f_q130
  have m_q1 := hF.lt f_q1
  have m_q137 := hF.lt f_q137
  have m_q134 := hF.lt f_q134
  have m_q4 := hF.lt f_q4
  refine fw_new (ci := 3) (fs := [.null, .int 0, .int 0]) X gC_ok hF hS rfl tyX3 tyX3_ok (by decide +kernel) wm_48 wm_127 wm_29 (Nat.le_of_ble_eq_true rfl) (Nat.le_of_ble_eq_true rfl) dX8_init_108 (fun q141 H nq141 zq141 zzq141 hF hS => ?_)
  have l_q19_q141 : q19 < q141 := Nat.lt_of_lt_of_le m_q19 (Nat.le_of_eq zq141.symm)
  have l_q22_q141 : q22 < q141 := Nat.lt_of_lt_of_le m_q22 (Nat.le_of_eq zq141.symm)
  have l_h0_q141 : h0 < q141 := Nat.lt_of_lt_of_le m_h0 (Nat.le_of_eq zq141.symm)
  have l_q28_q141 : q28 < q141 := Nat.lt_of_lt_of_le m_q28 (Nat.le_of_eq zq141.symm)
  have l_q35_q141 : q35 < q141 := Nat.lt_of_lt_of_le m_q35 (Nat.le_of_eq zq141.symm)
  have l_q32_q141 : q32 < q141 := Nat.lt_of_lt_of_le m_q32 (Nat.le_of_eq zq141.symm)
  have l_q42_q141 : q42 < q141 := Nat.lt_of_lt_of_le m_q42 (Nat.le_of_eq zq141.symm)
  have l_q39_q141 : q39 < q141 := Nat.lt_of_lt_of_le m_q39 (Nat.le_of_eq zq141.symm)
  have l_q49_q141 : q49 < q141 := Nat.lt_of_lt_of_le m_q49 (Nat.le_of_eq zq141.symm)
  have l_q46_q141 : q46 < q141 := Nat.lt_of_lt_of_le m_q46 (Nat.le_of_eq zq141.symm)
  have l_q56_q141 : q56 < q141 := Nat.lt_of_lt_of_le m_q56 (Nat.le_of_eq zq141.symm)
  have l_q53_q141 : q53 < q141 := Nat.lt_of_lt_of_le m_q53 (Nat.le_of_eq zq141.symm)
  have l_q62_q141 : q62 < q141 := Nat.lt_of_lt_of_le m_q62 (Nat.le_of_eq zq141.symm)
  have l_q69_q141 : q69 < q141 := Nat.lt_of_lt_of_le m_q69 (Nat.le_of_eq zq141.symm)
  have l_q66_q141 : q66 < q141 := Nat.lt_of_lt_of_le m_q66 (Nat.le_of_eq zq141.symm)
  have l_q76_q141 : q76 < q141 := Nat.lt_of_lt_of_le m_q76 (Nat.le_of_eq zq141.symm)
  have l_q73_q141 : q73 < q141 := Nat.lt_of_lt_of_le m_q73 (Nat.le_of_eq zq141.symm)
  have l_q83_q141 : q83 < q141 := Nat.lt_of_lt_of_le m_q83 (Nat.le_of_eq zq141.symm)
  have l_q80_q141 : q80 < q141 := Nat.lt_of_lt_of_le m_q80 (Nat.le_of_eq zq141.symm)
  have l_q90_q141 : q90 < q141 := Nat.lt_of_lt_of_le m_q90 (Nat.le_of_eq zq141.symm)
  have l_q87_q141 : q87 < q141 := Nat.lt_of_lt_of_le m_q87 (Nat.le_of_eq zq141.symm)
  have l_q96_q141 : q96 < q141 := Nat.lt_of_lt_of_le m_q96 (Nat.le_of_eq zq141.symm)
  have l_q103_q141 : q103 < q141 := Nat.lt_of_lt_of_le m_q103 (Nat.le_of_eq zq141.symm)
  have l_q100_q141 : q100 < q141 := Nat.lt_of_lt_of_le m_q100 (Nat.le_of_eq zq141.symm)
  have l_q110_q141 : q110 < q141 := Nat.lt_of_lt_of_le m_q110 (Nat.le_of_eq zq141.symm)
  have l_q107_q141 : q107 < q141 := Nat.lt_of_lt_of_le m_q107 (Nat.le_of_eq zq141.symm)
  have l_q7_q141 : q7 < q141 := Nat.lt_of_lt_of_le m_q7 (Nat.le_of_eq zq141.symm)
  have l_q117_q141 : q117 < q141 := Nat.lt_of_lt_of_le m_q117 (Nat.le_of_eq zq141.symm)
  have l_q114_q141 : q114 < q141 := Nat.lt_of_lt_of_le m_q114 (Nat.le_of_eq zq141.symm)
  have l_q10_q141 : q10 < q141 := Nat.lt_of_lt_of_le m_q10 (Nat.le_of_eq zq141.symm)
  have l_q124_q141 : q124 < q141 := Nat.lt_of_lt_of_le m_q124 (Nat.le_of_eq zq141.symm)
  have l_q121_q141 : q121 < q141 := Nat.lt_of_lt_of_le m_q121 (Nat.le_of_eq zq141.symm)
  have l_q13_q141 : q13 < q141 := Nat.lt_of_lt_of_le m_q13 (Nat.le_of_eq zq141.symm)
  have l_q16_q141 : q16 < q141 := Nat.lt_of_lt_of_le m_q16 (Nat.le_of_eq zq141.symm)
  have l_q130_q141 : q130 < q141 := Nat.lt_of_lt_of_le m_q130 (Nat.le_of_eq zq141.symm)
  have l_q1_q141 : q1 < q141 := Nat.lt_of_lt_of_le m_q1 (Nat.le_of_eq zq141.symm)
  have l_q137_q141 : q137 < q141 := Nat.lt_of_lt_of_le m_q137 (Nat.le_of_eq zq141.symm)
  have l_q134_q141 : q134 < q141 := Nat.lt_of_lt_of_le m_q134 (Nat.le_of_eq zq141.symm)
  have l_q4_q141 : q4 < q141 := Nat.lt_of_lt_of_le m_q4 (Nat.le_of_eq zq141.symm)
  clear m_q19 m_q22 m_h0 m_q28 m_q35 m_q32 m_q42 m_q39 m_q49 m_q46 m_q56 m_q53 m_q62 m_q69 m_q66 m_q76 m_q73 m_q83 m_q80 m_q90 m_q87 m_q96 m_q103 m_q100 m_q110 m_q107 m_q7 m_q117 m_q114 m_q10 m_q124 m_q121 m_q13 m_q16 m_q130 m_q1 m_q137 m_q134 m_q4
  have hF : fw_P D cls10 A (va_up u140 q141 (some (.inr (3, [.null, .int 0, .int 0])))) H := hF
  obtain ⟨u142, hu142⟩ : ∃ y : fW, y = va_up u140 q141 (some (.inr (3, [.null, .int 0, .int 0]))) := ⟨_, rfl⟩
  rw [← hu142] at hF
  replace f_q19 : u142 q19 = some (.inl (cs 0, 8, .inl (fun _ => 0))) := by rw [hu142]; exact (va_up_ne _ _ (Nat.ne_of_lt l_q19_q141)).trans f_q19
  replace f_q22 : u142 q22 = some (.inr (4, [.int 0, .int 0, .int 0, .int (-1), .int 0, .long 0])) := by rw [hu142]; exact (va_up_ne _ _ (Nat.ne_of_lt l_q22_q141)).trans f_q22
  replace f_h0 : u142 h0 = some (.inr (8, [.ref q1, .ref q4, .ref q7, .ref q10, .ref q13, .ref q16, .ref q19, .ref q22])) := by rw [hu142]; exact (va_up_ne _ _ (Nat.ne_of_lt l_h0_q141)).trans f_h0
  replace f_q28 : u142 q28 = some (.inr (5, [.int 0, .int 0, .null, .null, .int 0, .int 0])) := by rw [hu142]; exact (va_up_ne _ _ (Nat.ne_of_lt l_q28_q141)).trans f_q28
  replace f_q35 : u142 q35 = some (.inl (cs 0, 12, .inl (fun _ => 0))) := by rw [hu142]; exact (va_up_ne _ _ (Nat.ne_of_lt l_q35_q141)).trans f_q35
  replace f_q32 : u142 q32 = some (.inr (0, [.ref q35, .int (-1)])) := by rw [hu142]; exact (va_up_ne _ _ (Nat.ne_of_lt l_q32_q141)).trans f_q32
  replace f_q42 : u142 q42 = some (.inl (cs 7, 12, .inr (.inr (.inr (.inr (fun _ => none)))))) := by rw [hu142]; exact (va_up_ne _ _ (Nat.ne_of_lt l_q42_q141)).trans f_q42
  replace f_q39 : u142 q39 = some (.inr (3, [.ref q42, .int (-1), .int 0])) := by rw [hu142]; exact (va_up_ne _ _ (Nat.ne_of_lt l_q39_q141)).trans f_q39
  replace f_q49 : u142 q49 = some (.inl (cs 0, 144, .inl (fun _ => 0))) := by rw [hu142]; exact (va_up_ne _ _ (Nat.ne_of_lt l_q49_q141)).trans f_q49
  replace f_q46 : u142 q46 = some (.inr (1, [.ref q49, .int (-1), .int 0])) := by rw [hu142]; exact (va_up_ne _ _ (Nat.ne_of_lt l_q46_q141)).trans f_q46
  replace f_q56 : u142 q56 = some (.inl (cs 8, 16, .inr (.inr (.inr (.inr (fun _ => none)))))) := by rw [hu142]; exact (va_up_ne _ _ (Nat.ne_of_lt l_q56_q141)).trans f_q56
  replace f_q53 : u142 q53 = some (.inr (2, [.ref q56, .int 0])) := by rw [hu142]; exact (va_up_ne _ _ (Nat.ne_of_lt l_q53_q141)).trans f_q53
  replace f_q62 : u142 q62 = some (.inr (5, [.int 0, .int 0, .null, .null, .int 0, .int 0])) := by rw [hu142]; exact (va_up_ne _ _ (Nat.ne_of_lt l_q62_q141)).trans f_q62
  replace f_q69 : u142 q69 = some (.inl (cs 0, 12, .inl (fun _ => 0))) := by rw [hu142]; exact (va_up_ne _ _ (Nat.ne_of_lt l_q69_q141)).trans f_q69
  replace f_q66 : u142 q66 = some (.inr (0, [.ref q69, .int (-1)])) := by rw [hu142]; exact (va_up_ne _ _ (Nat.ne_of_lt l_q66_q141)).trans f_q66
  replace f_q76 : u142 q76 = some (.inl (cs 7, 12, .inr (.inr (.inr (.inr (fun _ => none)))))) := by rw [hu142]; exact (va_up_ne _ _ (Nat.ne_of_lt l_q76_q141)).trans f_q76
  replace f_q73 : u142 q73 = some (.inr (3, [.ref q76, .int (-1), .int 0])) := by rw [hu142]; exact (va_up_ne _ _ (Nat.ne_of_lt l_q73_q141)).trans f_q73
  replace f_q83 : u142 q83 = some (.inl (cs 0, 144, .inl (fun _ => 0))) := by rw [hu142]; exact (va_up_ne _ _ (Nat.ne_of_lt l_q83_q141)).trans f_q83
  replace f_q80 : u142 q80 = some (.inr (1, [.ref q83, .int (-1), .int 0])) := by rw [hu142]; exact (va_up_ne _ _ (Nat.ne_of_lt l_q80_q141)).trans f_q80
  replace f_q90 : u142 q90 = some (.inl (cs 8, 16, .inr (.inr (.inr (.inr (fun _ => none)))))) := by rw [hu142]; exact (va_up_ne _ _ (Nat.ne_of_lt l_q90_q141)).trans f_q90
  replace f_q87 : u142 q87 = some (.inr (2, [.ref q90, .int 0])) := by rw [hu142]; exact (va_up_ne _ _ (Nat.ne_of_lt l_q87_q141)).trans f_q87
  replace f_q96 : u142 q96 = some (.inr (5, [.int 0, .int 0, .null, .null, .int 0, .int 0])) := by rw [hu142]; exact (va_up_ne _ _ (Nat.ne_of_lt l_q96_q141)).trans f_q96
  replace f_q103 : u142 q103 = some (.inl (cs 0, 12, .inl (fun _ => 0))) := by rw [hu142]; exact (va_up_ne _ _ (Nat.ne_of_lt l_q103_q141)).trans f_q103
  replace f_q100 : u142 q100 = some (.inr (0, [.ref q103, .int (-1)])) := by rw [hu142]; exact (va_up_ne _ _ (Nat.ne_of_lt l_q100_q141)).trans f_q100
  replace f_q110 : u142 q110 = some (.inl (cs 7, 12, .inr (.inr (.inr (.inr (fun _ => none)))))) := by rw [hu142]; exact (va_up_ne _ _ (Nat.ne_of_lt l_q110_q141)).trans f_q110
  replace f_q107 : u142 q107 = some (.inr (3, [.ref q110, .int (-1), .int 0])) := by rw [hu142]; exact (va_up_ne _ _ (Nat.ne_of_lt l_q107_q141)).trans f_q107
  replace f_q7 : u142 q7 = some (.inl (cs 4, 4, .inr (.inr (.inr (.inr (va_up (va_up (va_up (fun _ => none) 0 (some q39)) 1 (some q73)) 2 (some q107))))))) := by rw [hu142]; exact (va_up_ne _ _ (Nat.ne_of_lt l_q7_q141)).trans f_q7
  replace f_q117 : u142 q117 = some (.inl (cs 0, 144, .inl (fun _ => 0))) := by rw [hu142]; exact (va_up_ne _ _ (Nat.ne_of_lt l_q117_q141)).trans f_q117
  replace f_q114 : u142 q114 = some (.inr (1, [.ref q117, .int (-1), .int 0])) := by rw [hu142]; exact (va_up_ne _ _ (Nat.ne_of_lt l_q114_q141)).trans f_q114
  replace f_q10 : u142 q10 = some (.inl (cs 5, 4, .inr (.inr (.inr (.inr (va_up (va_up (va_up (fun _ => none) 0 (some q46)) 1 (some q80)) 2 (some q114))))))) := by rw [hu142]; exact (va_up_ne _ _ (Nat.ne_of_lt l_q10_q141)).trans f_q10
  replace f_q124 : u142 q124 = some (.inl (cs 8, 16, .inr (.inr (.inr (.inr (fun _ => none)))))) := by rw [hu142]; exact (va_up_ne _ _ (Nat.ne_of_lt l_q124_q141)).trans f_q124
  replace f_q121 : u142 q121 = some (.inr (2, [.ref q124, .int 0])) := by rw [hu142]; exact (va_up_ne _ _ (Nat.ne_of_lt l_q121_q141)).trans f_q121
  replace f_q13 : u142 q13 = some (.inl (cs 6, 4, .inr (.inr (.inr (.inr (va_up (va_up (va_up (fun _ => none) 0 (some q53)) 1 (some q87)) 2 (some q121))))))) := by rw [hu142]; exact (va_up_ne _ _ (Nat.ne_of_lt l_q13_q141)).trans f_q13
  replace f_q16 : u142 q16 = some (.inl (cs 0, 4, .inl (upd (upd (upd (fun _ => 0) 0 1) 1 1) 2 1))) := by rw [hu142]; exact (va_up_ne _ _ (Nat.ne_of_lt l_q16_q141)).trans f_q16
  replace f_q130 : u142 q130 = some (.inr (5, [.int 0, .int 0, .null, .null, .int 0, .int 0])) := by rw [hu142]; exact (va_up_ne _ _ (Nat.ne_of_lt l_q130_q141)).trans f_q130
  replace f_q1 : u142 q1 = some (.inl (cs 2, 4, .inr (.inr (.inr (.inr (va_up (va_up (va_up (va_up (fun _ => none) 0 (some q28)) 1 (some q62)) 2 (some q96)) 3 (some q130))))))) := by rw [hu142]; exact (va_up_ne _ _ (Nat.ne_of_lt l_q1_q141)).trans f_q1
  replace f_q137 : u142 q137 = some (.inl (cs 0, 12, .inl (fun _ => 0))) := by rw [hu142]; exact (va_up_ne _ _ (Nat.ne_of_lt l_q137_q141)).trans f_q137
  replace f_q134 : u142 q134 = some (.inr (0, [.ref q137, .int (-1)])) := by rw [hu142]; exact (va_up_ne _ _ (Nat.ne_of_lt l_q134_q141)).trans f_q134
  replace f_q4 : u142 q4 = some (.inl (cs 3, 4, .inr (.inr (.inr (.inr (va_up (va_up (va_up (va_up (fun _ => none) 0 (some q32)) 1 (some q66)) 2 (some q100)) 3 (some q134))))))) := by rw [hu142]; exact (va_up_ne _ _ (Nat.ne_of_lt l_q4_q141)).trans f_q4
  have f_q141 : u142 q141 = some (.inr (3, [.null, .int 0, .int 0])) := by rw [hu142]; exact va_up_self _ _ _
  refine lv_dup hx hb dX8_init_111 rfl ?_
  have m_q19 := hF.lt f_q19
  have m_q22 := hF.lt f_q22
  have m_h0 := hF.lt f_h0
  have m_q28 := hF.lt f_q28
  have m_q35 := hF.lt f_q35
  have m_q32 := hF.lt f_q32
  have m_q42 := hF.lt f_q42
  have m_q39 := hF.lt f_q39
  have m_q49 := hF.lt f_q49
  have m_q46 := hF.lt f_q46
  have m_q56 := hF.lt f_q56
  have m_q53 := hF.lt f_q53
  have m_q62 := hF.lt f_q62
  have m_q69 := hF.lt f_q69
  have m_q66 := hF.lt f_q66
  have m_q76 := hF.lt f_q76
  have m_q73 := hF.lt f_q73
  have m_q83 := hF.lt f_q83
  have m_q80 := hF.lt f_q80
  have m_q90 := hF.lt f_q90
  have m_q87 := hF.lt f_q87
  have m_q96 := hF.lt f_q96
  have m_q103 := hF.lt f_q103
  have m_q100 := hF.lt f_q100
  have m_q110 := hF.lt f_q110
  have m_q107 := hF.lt f_q107
  have m_q7 := hF.lt f_q7
  have m_q117 := hF.lt f_q117
  have m_q114 := hF.lt f_q114
  have m_q10 := hF.lt f_q10
  have m_q124 := hF.lt f_q124
  have m_q121 := hF.lt f_q121
  have m_q13 := hF.lt f_q13
  have m_q16 := hF.lt f_q16
  have m_q130 := hF.lt f_q130
  have m_q1 := hF.lt f_q1
  have m_q137 := hF.lt f_q137
  have m_q134 := hF.lt f_q134
  have m_q4 := hF.lt f_q4
  have m_q141 := hF.lt f_q141
  refine fw_callIN (As := []) (rest := [.ref q141, .int 3, .ref q7]) X bs_all nw_all mf_X3_init (c_X3_init l D cs _ _ q141 f_q141) nm_128 wm_129 rfl hF hS rfl ((⟨⟨Nat.le_of_ble_eq_true rfl, Nat.le_of_ble_eq_true rfl⟩, Nat.le_of_ble_eq_true rfl, Nat.le_of_ble_eq_true rfl⟩)) rfl hl.1 rfl (Nat.le_of_ble_eq_true rfl) dX8_init_112 (fun v u143 H locs hp hF hS hz1 hk1 hd1 => ?_)
  obtain ⟨hv1, q144, nq144, hw1⟩ := hp
  subst hv1
  have leq144 := (hd1 q144 (by rw [hw1, va_up_ne _ _ (Ne.symm (gx_ne f_q141 nq144)), va_up_self]; exact fun z => by cases z)).resolve_left (fun z => z nq144)
  have l_q19_q144 : q19 < q144 := Nat.lt_of_lt_of_le m_q19 leq144
  have l_q22_q144 : q22 < q144 := Nat.lt_of_lt_of_le m_q22 leq144
  have l_h0_q144 : h0 < q144 := Nat.lt_of_lt_of_le m_h0 leq144
  have l_q28_q144 : q28 < q144 := Nat.lt_of_lt_of_le m_q28 leq144
  have l_q35_q144 : q35 < q144 := Nat.lt_of_lt_of_le m_q35 leq144
  have l_q32_q144 : q32 < q144 := Nat.lt_of_lt_of_le m_q32 leq144
  have l_q42_q144 : q42 < q144 := Nat.lt_of_lt_of_le m_q42 leq144
  have l_q39_q144 : q39 < q144 := Nat.lt_of_lt_of_le m_q39 leq144
  have l_q49_q144 : q49 < q144 := Nat.lt_of_lt_of_le m_q49 leq144
  have l_q46_q144 : q46 < q144 := Nat.lt_of_lt_of_le m_q46 leq144
  have l_q56_q144 : q56 < q144 := Nat.lt_of_lt_of_le m_q56 leq144
  have l_q53_q144 : q53 < q144 := Nat.lt_of_lt_of_le m_q53 leq144
  have l_q62_q144 : q62 < q144 := Nat.lt_of_lt_of_le m_q62 leq144
  have l_q69_q144 : q69 < q144 := Nat.lt_of_lt_of_le m_q69 leq144
  have l_q66_q144 : q66 < q144 := Nat.lt_of_lt_of_le m_q66 leq144
  have l_q76_q144 : q76 < q144 := Nat.lt_of_lt_of_le m_q76 leq144
  have l_q73_q144 : q73 < q144 := Nat.lt_of_lt_of_le m_q73 leq144
  have l_q83_q144 : q83 < q144 := Nat.lt_of_lt_of_le m_q83 leq144
  have l_q80_q144 : q80 < q144 := Nat.lt_of_lt_of_le m_q80 leq144
  have l_q90_q144 : q90 < q144 := Nat.lt_of_lt_of_le m_q90 leq144
  have l_q87_q144 : q87 < q144 := Nat.lt_of_lt_of_le m_q87 leq144
  have l_q96_q144 : q96 < q144 := Nat.lt_of_lt_of_le m_q96 leq144
  have l_q103_q144 : q103 < q144 := Nat.lt_of_lt_of_le m_q103 leq144
  have l_q100_q144 : q100 < q144 := Nat.lt_of_lt_of_le m_q100 leq144
  have l_q110_q144 : q110 < q144 := Nat.lt_of_lt_of_le m_q110 leq144
  have l_q107_q144 : q107 < q144 := Nat.lt_of_lt_of_le m_q107 leq144
  have l_q7_q144 : q7 < q144 := Nat.lt_of_lt_of_le m_q7 leq144
  have l_q117_q144 : q117 < q144 := Nat.lt_of_lt_of_le m_q117 leq144
  have l_q114_q144 : q114 < q144 := Nat.lt_of_lt_of_le m_q114 leq144
  have l_q10_q144 : q10 < q144 := Nat.lt_of_lt_of_le m_q10 leq144
  have l_q124_q144 : q124 < q144 := Nat.lt_of_lt_of_le m_q124 leq144
  have l_q121_q144 : q121 < q144 := Nat.lt_of_lt_of_le m_q121 leq144
  have l_q13_q144 : q13 < q144 := Nat.lt_of_lt_of_le m_q13 leq144
  have l_q16_q144 : q16 < q144 := Nat.lt_of_lt_of_le m_q16 leq144
  have l_q130_q144 : q130 < q144 := Nat.lt_of_lt_of_le m_q130 leq144
  have l_q1_q144 : q1 < q144 := Nat.lt_of_lt_of_le m_q1 leq144
  have l_q137_q144 : q137 < q144 := Nat.lt_of_lt_of_le m_q137 leq144
  have l_q134_q144 : q134 < q144 := Nat.lt_of_lt_of_le m_q134 leq144
  have l_q4_q144 : q4 < q144 := Nat.lt_of_lt_of_le m_q4 leq144
  have l_q141_q144 : q141 < q144 := Nat.lt_of_lt_of_le m_q141 leq144
  clear m_q19 m_q22 m_h0 m_q28 m_q35 m_q32 m_q42 m_q39 m_q49 m_q46 m_q56 m_q53 m_q62 m_q69 m_q66 m_q76 m_q73 m_q83 m_q80 m_q90 m_q87 m_q96 m_q103 m_q100 m_q110 m_q107 m_q7 m_q117 m_q114 m_q10 m_q124 m_q121 m_q13 m_q16 m_q130 m_q1 m_q137 m_q134 m_q4 m_q141
  rw [hw1] at hF
  clear hw1 hd1 hk1
  obtain ⟨u145, hu145⟩ : ∃ y : fW, y = va_up u142 q144 (some (.inl (cs 7, 12, .inr (.inr (.inr (.inr (fun _ => none))))))) := ⟨_, rfl⟩
  rw [← hu145] at hF
  replace f_q19 : u145 q19 = some (.inl (cs 0, 8, .inl (fun _ => 0))) := by rw [hu145]; exact (va_up_ne _ _ (Nat.ne_of_lt l_q19_q144)).trans f_q19
  replace f_q22 : u145 q22 = some (.inr (4, [.int 0, .int 0, .int 0, .int (-1), .int 0, .long 0])) := by rw [hu145]; exact (va_up_ne _ _ (Nat.ne_of_lt l_q22_q144)).trans f_q22
  replace f_h0 : u145 h0 = some (.inr (8, [.ref q1, .ref q4, .ref q7, .ref q10, .ref q13, .ref q16, .ref q19, .ref q22])) := by rw [hu145]; exact (va_up_ne _ _ (Nat.ne_of_lt l_h0_q144)).trans f_h0
  replace f_q28 : u145 q28 = some (.inr (5, [.int 0, .int 0, .null, .null, .int 0, .int 0])) := by rw [hu145]; exact (va_up_ne _ _ (Nat.ne_of_lt l_q28_q144)).trans f_q28
  replace f_q35 : u145 q35 = some (.inl (cs 0, 12, .inl (fun _ => 0))) := by rw [hu145]; exact (va_up_ne _ _ (Nat.ne_of_lt l_q35_q144)).trans f_q35
  replace f_q32 : u145 q32 = some (.inr (0, [.ref q35, .int (-1)])) := by rw [hu145]; exact (va_up_ne _ _ (Nat.ne_of_lt l_q32_q144)).trans f_q32
  replace f_q42 : u145 q42 = some (.inl (cs 7, 12, .inr (.inr (.inr (.inr (fun _ => none)))))) := by rw [hu145]; exact (va_up_ne _ _ (Nat.ne_of_lt l_q42_q144)).trans f_q42
  replace f_q39 : u145 q39 = some (.inr (3, [.ref q42, .int (-1), .int 0])) := by rw [hu145]; exact (va_up_ne _ _ (Nat.ne_of_lt l_q39_q144)).trans f_q39
  replace f_q49 : u145 q49 = some (.inl (cs 0, 144, .inl (fun _ => 0))) := by rw [hu145]; exact (va_up_ne _ _ (Nat.ne_of_lt l_q49_q144)).trans f_q49
  replace f_q46 : u145 q46 = some (.inr (1, [.ref q49, .int (-1), .int 0])) := by rw [hu145]; exact (va_up_ne _ _ (Nat.ne_of_lt l_q46_q144)).trans f_q46
  replace f_q56 : u145 q56 = some (.inl (cs 8, 16, .inr (.inr (.inr (.inr (fun _ => none)))))) := by rw [hu145]; exact (va_up_ne _ _ (Nat.ne_of_lt l_q56_q144)).trans f_q56
  replace f_q53 : u145 q53 = some (.inr (2, [.ref q56, .int 0])) := by rw [hu145]; exact (va_up_ne _ _ (Nat.ne_of_lt l_q53_q144)).trans f_q53
  replace f_q62 : u145 q62 = some (.inr (5, [.int 0, .int 0, .null, .null, .int 0, .int 0])) := by rw [hu145]; exact (va_up_ne _ _ (Nat.ne_of_lt l_q62_q144)).trans f_q62
  replace f_q69 : u145 q69 = some (.inl (cs 0, 12, .inl (fun _ => 0))) := by rw [hu145]; exact (va_up_ne _ _ (Nat.ne_of_lt l_q69_q144)).trans f_q69
  replace f_q66 : u145 q66 = some (.inr (0, [.ref q69, .int (-1)])) := by rw [hu145]; exact (va_up_ne _ _ (Nat.ne_of_lt l_q66_q144)).trans f_q66
  replace f_q76 : u145 q76 = some (.inl (cs 7, 12, .inr (.inr (.inr (.inr (fun _ => none)))))) := by rw [hu145]; exact (va_up_ne _ _ (Nat.ne_of_lt l_q76_q144)).trans f_q76
  replace f_q73 : u145 q73 = some (.inr (3, [.ref q76, .int (-1), .int 0])) := by rw [hu145]; exact (va_up_ne _ _ (Nat.ne_of_lt l_q73_q144)).trans f_q73
  replace f_q83 : u145 q83 = some (.inl (cs 0, 144, .inl (fun _ => 0))) := by rw [hu145]; exact (va_up_ne _ _ (Nat.ne_of_lt l_q83_q144)).trans f_q83
  replace f_q80 : u145 q80 = some (.inr (1, [.ref q83, .int (-1), .int 0])) := by rw [hu145]; exact (va_up_ne _ _ (Nat.ne_of_lt l_q80_q144)).trans f_q80
  replace f_q90 : u145 q90 = some (.inl (cs 8, 16, .inr (.inr (.inr (.inr (fun _ => none)))))) := by rw [hu145]; exact (va_up_ne _ _ (Nat.ne_of_lt l_q90_q144)).trans f_q90
  replace f_q87 : u145 q87 = some (.inr (2, [.ref q90, .int 0])) := by rw [hu145]; exact (va_up_ne _ _ (Nat.ne_of_lt l_q87_q144)).trans f_q87
  replace f_q96 : u145 q96 = some (.inr (5, [.int 0, .int 0, .null, .null, .int 0, .int 0])) := by rw [hu145]; exact (va_up_ne _ _ (Nat.ne_of_lt l_q96_q144)).trans f_q96
  replace f_q103 : u145 q103 = some (.inl (cs 0, 12, .inl (fun _ => 0))) := by rw [hu145]; exact (va_up_ne _ _ (Nat.ne_of_lt l_q103_q144)).trans f_q103
  replace f_q100 : u145 q100 = some (.inr (0, [.ref q103, .int (-1)])) := by rw [hu145]; exact (va_up_ne _ _ (Nat.ne_of_lt l_q100_q144)).trans f_q100
  replace f_q110 : u145 q110 = some (.inl (cs 7, 12, .inr (.inr (.inr (.inr (fun _ => none)))))) := by rw [hu145]; exact (va_up_ne _ _ (Nat.ne_of_lt l_q110_q144)).trans f_q110
  replace f_q107 : u145 q107 = some (.inr (3, [.ref q110, .int (-1), .int 0])) := by rw [hu145]; exact (va_up_ne _ _ (Nat.ne_of_lt l_q107_q144)).trans f_q107
  replace f_q7 : u145 q7 = some (.inl (cs 4, 4, .inr (.inr (.inr (.inr (va_up (va_up (va_up (fun _ => none) 0 (some q39)) 1 (some q73)) 2 (some q107))))))) := by rw [hu145]; exact (va_up_ne _ _ (Nat.ne_of_lt l_q7_q144)).trans f_q7
  replace f_q117 : u145 q117 = some (.inl (cs 0, 144, .inl (fun _ => 0))) := by rw [hu145]; exact (va_up_ne _ _ (Nat.ne_of_lt l_q117_q144)).trans f_q117
  replace f_q114 : u145 q114 = some (.inr (1, [.ref q117, .int (-1), .int 0])) := by rw [hu145]; exact (va_up_ne _ _ (Nat.ne_of_lt l_q114_q144)).trans f_q114
  replace f_q10 : u145 q10 = some (.inl (cs 5, 4, .inr (.inr (.inr (.inr (va_up (va_up (va_up (fun _ => none) 0 (some q46)) 1 (some q80)) 2 (some q114))))))) := by rw [hu145]; exact (va_up_ne _ _ (Nat.ne_of_lt l_q10_q144)).trans f_q10
  replace f_q124 : u145 q124 = some (.inl (cs 8, 16, .inr (.inr (.inr (.inr (fun _ => none)))))) := by rw [hu145]; exact (va_up_ne _ _ (Nat.ne_of_lt l_q124_q144)).trans f_q124
  replace f_q121 : u145 q121 = some (.inr (2, [.ref q124, .int 0])) := by rw [hu145]; exact (va_up_ne _ _ (Nat.ne_of_lt l_q121_q144)).trans f_q121
  replace f_q13 : u145 q13 = some (.inl (cs 6, 4, .inr (.inr (.inr (.inr (va_up (va_up (va_up (fun _ => none) 0 (some q53)) 1 (some q87)) 2 (some q121))))))) := by rw [hu145]; exact (va_up_ne _ _ (Nat.ne_of_lt l_q13_q144)).trans f_q13
  replace f_q16 : u145 q16 = some (.inl (cs 0, 4, .inl (upd (upd (upd (fun _ => 0) 0 1) 1 1) 2 1))) := by rw [hu145]; exact (va_up_ne _ _ (Nat.ne_of_lt l_q16_q144)).trans f_q16
  replace f_q130 : u145 q130 = some (.inr (5, [.int 0, .int 0, .null, .null, .int 0, .int 0])) := by rw [hu145]; exact (va_up_ne _ _ (Nat.ne_of_lt l_q130_q144)).trans f_q130
  replace f_q1 : u145 q1 = some (.inl (cs 2, 4, .inr (.inr (.inr (.inr (va_up (va_up (va_up (va_up (fun _ => none) 0 (some q28)) 1 (some q62)) 2 (some q96)) 3 (some q130))))))) := by rw [hu145]; exact (va_up_ne _ _ (Nat.ne_of_lt l_q1_q144)).trans f_q1
  replace f_q137 : u145 q137 = some (.inl (cs 0, 12, .inl (fun _ => 0))) := by rw [hu145]; exact (va_up_ne _ _ (Nat.ne_of_lt l_q137_q144)).trans f_q137
  replace f_q134 : u145 q134 = some (.inr (0, [.ref q137, .int (-1)])) := by rw [hu145]; exact (va_up_ne _ _ (Nat.ne_of_lt l_q134_q144)).trans f_q134
  replace f_q4 : u145 q4 = some (.inl (cs 3, 4, .inr (.inr (.inr (.inr (va_up (va_up (va_up (va_up (fun _ => none) 0 (some q32)) 1 (some q66)) 2 (some q100)) 3 (some q134))))))) := by rw [hu145]; exact (va_up_ne _ _ (Nat.ne_of_lt l_q4_q144)).trans f_q4
  replace f_q141 : u145 q141 = some (.inr (3, [.null, .int 0, .int 0])) := by rw [hu145]; exact (va_up_ne _ _ (Nat.ne_of_lt l_q141_q144)).trans f_q141
  have f_q144 : u145 q144 = some (.inl (cs 7, 12, .inr (.inr (.inr (.inr (fun _ => none)))))) := by rw [hu145]; exact va_up_self _ _ _
  obtain ⟨u146, hu146⟩ : ∃ y : fW, y = va_up u145 q141 (some (.inr (3, [.ref q144, .int (-1), .int 0]))) := ⟨_, rfl⟩
  rw [← hu146] at hF
  replace f_q19 : u146 q19 = some (.inl (cs 0, 8, .inl (fun _ => 0))) := by rw [hu146]; exact (va_up_ne _ _ (Nat.ne_of_lt l_q19_q141)).trans f_q19
  replace f_q22 : u146 q22 = some (.inr (4, [.int 0, .int 0, .int 0, .int (-1), .int 0, .long 0])) := by rw [hu146]; exact (va_up_ne _ _ (Nat.ne_of_lt l_q22_q141)).trans f_q22
  replace f_h0 : u146 h0 = some (.inr (8, [.ref q1, .ref q4, .ref q7, .ref q10, .ref q13, .ref q16, .ref q19, .ref q22])) := by rw [hu146]; exact (va_up_ne _ _ (Nat.ne_of_lt l_h0_q141)).trans f_h0
  replace f_q28 : u146 q28 = some (.inr (5, [.int 0, .int 0, .null, .null, .int 0, .int 0])) := by rw [hu146]; exact (va_up_ne _ _ (Nat.ne_of_lt l_q28_q141)).trans f_q28
  replace f_q35 : u146 q35 = some (.inl (cs 0, 12, .inl (fun _ => 0))) := by rw [hu146]; exact (va_up_ne _ _ (Nat.ne_of_lt l_q35_q141)).trans f_q35
  replace f_q32 : u146 q32 = some (.inr (0, [.ref q35, .int (-1)])) := by rw [hu146]; exact (va_up_ne _ _ (Nat.ne_of_lt l_q32_q141)).trans f_q32
  replace f_q42 : u146 q42 = some (.inl (cs 7, 12, .inr (.inr (.inr (.inr (fun _ => none)))))) := by rw [hu146]; exact (va_up_ne _ _ (Nat.ne_of_lt l_q42_q141)).trans f_q42
  replace f_q39 : u146 q39 = some (.inr (3, [.ref q42, .int (-1), .int 0])) := by rw [hu146]; exact (va_up_ne _ _ (Nat.ne_of_lt l_q39_q141)).trans f_q39
  replace f_q49 : u146 q49 = some (.inl (cs 0, 144, .inl (fun _ => 0))) := by rw [hu146]; exact (va_up_ne _ _ (Nat.ne_of_lt l_q49_q141)).trans f_q49
  replace f_q46 : u146 q46 = some (.inr (1, [.ref q49, .int (-1), .int 0])) := by rw [hu146]; exact (va_up_ne _ _ (Nat.ne_of_lt l_q46_q141)).trans f_q46
  replace f_q56 : u146 q56 = some (.inl (cs 8, 16, .inr (.inr (.inr (.inr (fun _ => none)))))) := by rw [hu146]; exact (va_up_ne _ _ (Nat.ne_of_lt l_q56_q141)).trans f_q56
  replace f_q53 : u146 q53 = some (.inr (2, [.ref q56, .int 0])) := by rw [hu146]; exact (va_up_ne _ _ (Nat.ne_of_lt l_q53_q141)).trans f_q53
  replace f_q62 : u146 q62 = some (.inr (5, [.int 0, .int 0, .null, .null, .int 0, .int 0])) := by rw [hu146]; exact (va_up_ne _ _ (Nat.ne_of_lt l_q62_q141)).trans f_q62
  replace f_q69 : u146 q69 = some (.inl (cs 0, 12, .inl (fun _ => 0))) := by rw [hu146]; exact (va_up_ne _ _ (Nat.ne_of_lt l_q69_q141)).trans f_q69
  replace f_q66 : u146 q66 = some (.inr (0, [.ref q69, .int (-1)])) := by rw [hu146]; exact (va_up_ne _ _ (Nat.ne_of_lt l_q66_q141)).trans f_q66
  replace f_q76 : u146 q76 = some (.inl (cs 7, 12, .inr (.inr (.inr (.inr (fun _ => none)))))) := by rw [hu146]; exact (va_up_ne _ _ (Nat.ne_of_lt l_q76_q141)).trans f_q76
  replace f_q73 : u146 q73 = some (.inr (3, [.ref q76, .int (-1), .int 0])) := by rw [hu146]; exact (va_up_ne _ _ (Nat.ne_of_lt l_q73_q141)).trans f_q73
  replace f_q83 : u146 q83 = some (.inl (cs 0, 144, .inl (fun _ => 0))) := by rw [hu146]; exact (va_up_ne _ _ (Nat.ne_of_lt l_q83_q141)).trans f_q83
  replace f_q80 : u146 q80 = some (.inr (1, [.ref q83, .int (-1), .int 0])) := by rw [hu146]; exact (va_up_ne _ _ (Nat.ne_of_lt l_q80_q141)).trans f_q80
  replace f_q90 : u146 q90 = some (.inl (cs 8, 16, .inr (.inr (.inr (.inr (fun _ => none)))))) := by rw [hu146]; exact (va_up_ne _ _ (Nat.ne_of_lt l_q90_q141)).trans f_q90
  replace f_q87 : u146 q87 = some (.inr (2, [.ref q90, .int 0])) := by rw [hu146]; exact (va_up_ne _ _ (Nat.ne_of_lt l_q87_q141)).trans f_q87
  replace f_q96 : u146 q96 = some (.inr (5, [.int 0, .int 0, .null, .null, .int 0, .int 0])) := by rw [hu146]; exact (va_up_ne _ _ (Nat.ne_of_lt l_q96_q141)).trans f_q96
  replace f_q103 : u146 q103 = some (.inl (cs 0, 12, .inl (fun _ => 0))) := by rw [hu146]; exact (va_up_ne _ _ (Nat.ne_of_lt l_q103_q141)).trans f_q103
  replace f_q100 : u146 q100 = some (.inr (0, [.ref q103, .int (-1)])) := by rw [hu146]; exact (va_up_ne _ _ (Nat.ne_of_lt l_q100_q141)).trans f_q100
  replace f_q110 : u146 q110 = some (.inl (cs 7, 12, .inr (.inr (.inr (.inr (fun _ => none)))))) := by rw [hu146]; exact (va_up_ne _ _ (Nat.ne_of_lt l_q110_q141)).trans f_q110
  replace f_q107 : u146 q107 = some (.inr (3, [.ref q110, .int (-1), .int 0])) := by rw [hu146]; exact (va_up_ne _ _ (Nat.ne_of_lt l_q107_q141)).trans f_q107
  replace f_q7 : u146 q7 = some (.inl (cs 4, 4, .inr (.inr (.inr (.inr (va_up (va_up (va_up (fun _ => none) 0 (some q39)) 1 (some q73)) 2 (some q107))))))) := by rw [hu146]; exact (va_up_ne _ _ (Nat.ne_of_lt l_q7_q141)).trans f_q7
  replace f_q117 : u146 q117 = some (.inl (cs 0, 144, .inl (fun _ => 0))) := by rw [hu146]; exact (va_up_ne _ _ (Nat.ne_of_lt l_q117_q141)).trans f_q117
  replace f_q114 : u146 q114 = some (.inr (1, [.ref q117, .int (-1), .int 0])) := by rw [hu146]; exact (va_up_ne _ _ (Nat.ne_of_lt l_q114_q141)).trans f_q114
  replace f_q10 : u146 q10 = some (.inl (cs 5, 4, .inr (.inr (.inr (.inr (va_up (va_up (va_up (fun _ => none) 0 (some q46)) 1 (some q80)) 2 (some q114))))))) := by rw [hu146]; exact (va_up_ne _ _ (Nat.ne_of_lt l_q10_q141)).trans f_q10
  replace f_q124 : u146 q124 = some (.inl (cs 8, 16, .inr (.inr (.inr (.inr (fun _ => none)))))) := by rw [hu146]; exact (va_up_ne _ _ (Nat.ne_of_lt l_q124_q141)).trans f_q124
  replace f_q121 : u146 q121 = some (.inr (2, [.ref q124, .int 0])) := by rw [hu146]; exact (va_up_ne _ _ (Nat.ne_of_lt l_q121_q141)).trans f_q121
  replace f_q13 : u146 q13 = some (.inl (cs 6, 4, .inr (.inr (.inr (.inr (va_up (va_up (va_up (fun _ => none) 0 (some q53)) 1 (some q87)) 2 (some q121))))))) := by rw [hu146]; exact (va_up_ne _ _ (Nat.ne_of_lt l_q13_q141)).trans f_q13
  replace f_q16 : u146 q16 = some (.inl (cs 0, 4, .inl (upd (upd (upd (fun _ => 0) 0 1) 1 1) 2 1))) := by rw [hu146]; exact (va_up_ne _ _ (Nat.ne_of_lt l_q16_q141)).trans f_q16
  replace f_q130 : u146 q130 = some (.inr (5, [.int 0, .int 0, .null, .null, .int 0, .int 0])) := by rw [hu146]; exact (va_up_ne _ _ (Nat.ne_of_lt l_q130_q141)).trans f_q130
  replace f_q1 : u146 q1 = some (.inl (cs 2, 4, .inr (.inr (.inr (.inr (va_up (va_up (va_up (va_up (fun _ => none) 0 (some q28)) 1 (some q62)) 2 (some q96)) 3 (some q130))))))) := by rw [hu146]; exact (va_up_ne _ _ (Nat.ne_of_lt l_q1_q141)).trans f_q1
  replace f_q137 : u146 q137 = some (.inl (cs 0, 12, .inl (fun _ => 0))) := by rw [hu146]; exact (va_up_ne _ _ (Nat.ne_of_lt l_q137_q141)).trans f_q137
  replace f_q134 : u146 q134 = some (.inr (0, [.ref q137, .int (-1)])) := by rw [hu146]; exact (va_up_ne _ _ (Nat.ne_of_lt l_q134_q141)).trans f_q134
  replace f_q4 : u146 q4 = some (.inl (cs 3, 4, .inr (.inr (.inr (.inr (va_up (va_up (va_up (va_up (fun _ => none) 0 (some q32)) 1 (some q66)) 2 (some q100)) 3 (some q134))))))) := by rw [hu146]; exact (va_up_ne _ _ (Nat.ne_of_lt l_q4_q141)).trans f_q4
  replace f_q144 : u146 q144 = some (.inl (cs 7, 12, .inr (.inr (.inr (.inr (fun _ => none)))))) := by rw [hu146]; exact (va_up_ne _ _ (Nat.ne_of_gt l_q141_q144)).trans f_q144
  replace f_q141 : u146 q141 = some (.inr (3, [.ref q144, .int (-1), .int 0])) := by rw [hu146]; exact va_up_self _ _ _
  refine W.eq (g2 := F0 m 115 ls [.ref q141, .int 3, .ref q7]) rfl ?_
  refine fw_astq X hF hS f_q7 4 rfl f_q141 rfl (vp_in_iff.mpr (by decide)) dX8_init_115 (fun H locs hF hS => ?_)
  have hF : fw_P D cls10 A (va_up u146 q7 (some (.inl (cs 4, 4, .inr (.inr (.inr (.inr (va_up (va_up (va_up (va_up (fun _ => none) 0 (some q39)) 1 (some q73)) 2 (some q107)) 3 (some q141))))))))) H := hF
  obtain ⟨u147, hu147⟩ : ∃ y : fW, y = va_up u146 q7 (some (.inl (cs 4, 4, .inr (.inr (.inr (.inr (va_up (va_up (va_up (va_up (fun _ => none) 0 (some q39)) 1 (some q73)) 2 (some q107)) 3 (some q141)))))))) := ⟨_, rfl⟩
  rw [← hu147] at hF
  replace f_q19 : u147 q19 = some (.inl (cs 0, 8, .inl (fun _ => 0))) := by rw [hu147]; exact (va_up_ne _ _ (Nat.ne_of_gt l_q7_q19)).trans f_q19
  replace f_q22 : u147 q22 = some (.inr (4, [.int 0, .int 0, .int 0, .int (-1), .int 0, .long 0])) := by rw [hu147]; exact (va_up_ne _ _ (Nat.ne_of_gt l_q7_q22)).trans f_q22
  replace f_h0 : u147 h0 = some (.inr (8, [.ref q1, .ref q4, .ref q7, .ref q10, .ref q13, .ref q16, .ref q19, .ref q22])) := by rw [hu147]; exact (va_up_ne _ _ (Nat.ne_of_lt l_h0_q7)).trans f_h0
  replace f_q28 : u147 q28 = some (.inr (5, [.int 0, .int 0, .null, .null, .int 0, .int 0])) := by rw [hu147]; exact (va_up_ne _ _ (Nat.ne_of_gt l_q7_q28)).trans f_q28
  replace f_q35 : u147 q35 = some (.inl (cs 0, 12, .inl (fun _ => 0))) := by rw [hu147]; exact (va_up_ne _ _ (Nat.ne_of_gt l_q7_q35)).trans f_q35
  replace f_q32 : u147 q32 = some (.inr (0, [.ref q35, .int (-1)])) := by rw [hu147]; exact (va_up_ne _ _ (Nat.ne_of_gt l_q7_q32)).trans f_q32
  replace f_q42 : u147 q42 = some (.inl (cs 7, 12, .inr (.inr (.inr (.inr (fun _ => none)))))) := by rw [hu147]; exact (va_up_ne _ _ (Nat.ne_of_gt l_q7_q42)).trans f_q42
  replace f_q39 : u147 q39 = some (.inr (3, [.ref q42, .int (-1), .int 0])) := by rw [hu147]; exact (va_up_ne _ _ (Nat.ne_of_gt l_q7_q39)).trans f_q39
  replace f_q49 : u147 q49 = some (.inl (cs 0, 144, .inl (fun _ => 0))) := by rw [hu147]; exact (va_up_ne _ _ (Nat.ne_of_gt l_q7_q49)).trans f_q49
  replace f_q46 : u147 q46 = some (.inr (1, [.ref q49, .int (-1), .int 0])) := by rw [hu147]; exact (va_up_ne _ _ (Nat.ne_of_gt l_q7_q46)).trans f_q46
  replace f_q56 : u147 q56 = some (.inl (cs 8, 16, .inr (.inr (.inr (.inr (fun _ => none)))))) := by rw [hu147]; exact (va_up_ne _ _ (Nat.ne_of_gt l_q7_q56)).trans f_q56
  replace f_q53 : u147 q53 = some (.inr (2, [.ref q56, .int 0])) := by rw [hu147]; exact (va_up_ne _ _ (Nat.ne_of_gt l_q7_q53)).trans f_q53
  replace f_q62 : u147 q62 = some (.inr (5, [.int 0, .int 0, .null, .null, .int 0, .int 0])) := by rw [hu147]; exact (va_up_ne _ _ (Nat.ne_of_gt l_q7_q62)).trans f_q62
  replace f_q69 : u147 q69 = some (.inl (cs 0, 12, .inl (fun _ => 0))) := by rw [hu147]; exact (va_up_ne _ _ (Nat.ne_of_gt l_q7_q69)).trans f_q69
  replace f_q66 : u147 q66 = some (.inr (0, [.ref q69, .int (-1)])) := by rw [hu147]; exact (va_up_ne _ _ (Nat.ne_of_gt l_q7_q66)).trans f_q66
  replace f_q76 : u147 q76 = some (.inl (cs 7, 12, .inr (.inr (.inr (.inr (fun _ => none)))))) := by rw [hu147]; exact (va_up_ne _ _ (Nat.ne_of_gt l_q7_q76)).trans f_q76
  replace f_q73 : u147 q73 = some (.inr (3, [.ref q76, .int (-1), .int 0])) := by rw [hu147]; exact (va_up_ne _ _ (Nat.ne_of_gt l_q7_q73)).trans f_q73
  replace f_q83 : u147 q83 = some (.inl (cs 0, 144, .inl (fun _ => 0))) := by rw [hu147]; exact (va_up_ne _ _ (Nat.ne_of_gt l_q7_q83)).trans f_q83
  replace f_q80 : u147 q80 = some (.inr (1, [.ref q83, .int (-1), .int 0])) := by rw [hu147]; exact (va_up_ne _ _ (Nat.ne_of_gt l_q7_q80)).trans f_q80
  replace f_q90 : u147 q90 = some (.inl (cs 8, 16, .inr (.inr (.inr (.inr (fun _ => none)))))) := by rw [hu147]; exact (va_up_ne _ _ (Nat.ne_of_gt l_q7_q90)).trans f_q90
  replace f_q87 : u147 q87 = some (.inr (2, [.ref q90, .int 0])) := by rw [hu147]; exact (va_up_ne _ _ (Nat.ne_of_gt l_q7_q87)).trans f_q87
  replace f_q96 : u147 q96 = some (.inr (5, [.int 0, .int 0, .null, .null, .int 0, .int 0])) := by rw [hu147]; exact (va_up_ne _ _ (Nat.ne_of_gt l_q7_q96)).trans f_q96
  replace f_q103 : u147 q103 = some (.inl (cs 0, 12, .inl (fun _ => 0))) := by rw [hu147]; exact (va_up_ne _ _ (Nat.ne_of_gt l_q7_q103)).trans f_q103
  replace f_q100 : u147 q100 = some (.inr (0, [.ref q103, .int (-1)])) := by rw [hu147]; exact (va_up_ne _ _ (Nat.ne_of_gt l_q7_q100)).trans f_q100
  replace f_q110 : u147 q110 = some (.inl (cs 7, 12, .inr (.inr (.inr (.inr (fun _ => none)))))) := by rw [hu147]; exact (va_up_ne _ _ (Nat.ne_of_gt l_q7_q110)).trans f_q110
  replace f_q107 : u147 q107 = some (.inr (3, [.ref q110, .int (-1), .int 0])) := by rw [hu147]; exact (va_up_ne _ _ (Nat.ne_of_gt l_q7_q107)).trans f_q107
  replace f_q117 : u147 q117 = some (.inl (cs 0, 144, .inl (fun _ => 0))) := by rw [hu147]; exact (va_up_ne _ _ (Nat.ne_of_gt l_q7_q117)).trans f_q117
  replace f_q114 : u147 q114 = some (.inr (1, [.ref q117, .int (-1), .int 0])) := by rw [hu147]; exact (va_up_ne _ _ (Nat.ne_of_gt l_q7_q114)).trans f_q114
  replace f_q10 : u147 q10 = some (.inl (cs 5, 4, .inr (.inr (.inr (.inr (va_up (va_up (va_up (fun _ => none) 0 (some q46)) 1 (some q80)) 2 (some q114))))))) := by rw [hu147]; exact (va_up_ne _ _ (Nat.ne_of_gt l_q7_q10)).trans f_q10
  replace f_q124 : u147 q124 = some (.inl (cs 8, 16, .inr (.inr (.inr (.inr (fun _ => none)))))) := by rw [hu147]; exact (va_up_ne _ _ (Nat.ne_of_gt l_q7_q124)).trans f_q124
  replace f_q121 : u147 q121 = some (.inr (2, [.ref q124, .int 0])) := by rw [hu147]; exact (va_up_ne _ _ (Nat.ne_of_gt l_q7_q121)).trans f_q121
  replace f_q13 : u147 q13 = some (.inl (cs 6, 4, .inr (.inr (.inr (.inr (va_up (va_up (va_up (fun _ => none) 0 (some q53)) 1 (some q87)) 2 (some q121))))))) := by rw [hu147]; exact (va_up_ne _ _ (Nat.ne_of_gt l_q7_q13)).trans f_q13
  replace f_q16 : u147 q16 = some (.inl (cs 0, 4, .inl (upd (upd (upd (fun _ => 0) 0 1) 1 1) 2 1))) := by rw [hu147]; exact (va_up_ne _ _ (Nat.ne_of_gt l_q7_q16)).trans f_q16
  replace f_q130 : u147 q130 = some (.inr (5, [.int 0, .int 0, .null, .null, .int 0, .int 0])) := by rw [hu147]; exact (va_up_ne _ _ (Nat.ne_of_gt l_q7_q130)).trans f_q130
  replace f_q1 : u147 q1 = some (.inl (cs 2, 4, .inr (.inr (.inr (.inr (va_up (va_up (va_up (va_up (fun _ => none) 0 (some q28)) 1 (some q62)) 2 (some q96)) 3 (some q130))))))) := by rw [hu147]; exact (va_up_ne _ _ (Nat.ne_of_lt l_q1_q7)).trans f_q1
  replace f_q137 : u147 q137 = some (.inl (cs 0, 12, .inl (fun _ => 0))) := by rw [hu147]; exact (va_up_ne _ _ (Nat.ne_of_gt l_q7_q137)).trans f_q137
  replace f_q134 : u147 q134 = some (.inr (0, [.ref q137, .int (-1)])) := by rw [hu147]; exact (va_up_ne _ _ (Nat.ne_of_gt l_q7_q134)).trans f_q134
  replace f_q4 : u147 q4 = some (.inl (cs 3, 4, .inr (.inr (.inr (.inr (va_up (va_up (va_up (va_up (fun _ => none) 0 (some q32)) 1 (some q66)) 2 (some q100)) 3 (some q134))))))) := by rw [hu147]; exact (va_up_ne _ _ (Nat.ne_of_lt l_q4_q7)).trans f_q4
  replace f_q144 : u147 q144 = some (.inl (cs 7, 12, .inr (.inr (.inr (.inr (fun _ => none)))))) := by rw [hu147]; exact (va_up_ne _ _ (Nat.ne_of_gt l_q7_q144)).trans f_q144
  replace f_q141 : u147 q141 = some (.inr (3, [.ref q144, .int (-1), .int 0])) := by rw [hu147]; exact (va_up_ne _ _ (Nat.ne_of_gt l_q7_q141)).trans f_q141
  replace f_q7 : u147 q7 = some (.inl (cs 4, 4, .inr (.inr (.inr (.inr (va_up (va_up (va_up (va_up (fun _ => none) 0 (some q39)) 1 (some q73)) 2 (some q107)) 3 (some q141))))))) := by rw [hu147]; exact va_up_self _ _ _
  refine lv_aload_n hx hb dX8_init_116 rfl (lv_at hl 1 rfl) ?_
  refine fw_get X gC_ok hF f_h0 rfl 3 (by decide) wm_179 rfl dX8_init_117 ?_
  refine lv_iload_n hx hb dX8_init_120 rfl (lv_at hl 0 rfl) ?_
  have m_q19 := hF.lt f_q19
  have m_q22 := hF.lt f_q22
  have m_h0 := hF.lt f_h0
  have m_q28 := hF.lt f_q28
  have m_q35 := hF.lt f_q35
  have m_q32 := hF.lt f_q32
  have m_q42 := hF.lt f_q42
  have m_q39 := hF.lt f_q39
  have m_q49 := hF.lt f_q49
  have m_q46 := hF.lt f_q46
  have m_q56 := hF.lt f_q56
  have m_q53 := hF.lt f_q53
  have m_q62 := hF.lt f_q62
  have m_q69 := hF.lt f_q69
  have m_q66 := hF.lt f_q66
  have m_q76 := hF.lt f_q76
  have m_q73 := hF.lt f_q73
  have m_q83 := hF.lt f_q83
  have m_q80 := hF.lt f_q80
  have m_q90 := hF.lt f_q90
  have m_q87 := hF.lt f_q87
  have m_q96 := hF.lt f_q96
  have m_q103 := hF.lt f_q103
  have m_q100 := hF.lt f_q100
  have m_q110 := hF.lt f_q110
  have m_q107 := hF.lt f_q107
  have m_q117 := hF.lt f_q117
  have m_q114 := hF.lt f_q114
  have m_q10 := hF.lt f_q10
  have m_q124 := hF.lt f_q124
  have m_q121 := hF.lt f_q121
  have m_q13 := hF.lt f_q13
  have m_q16 := hF.lt f_q16
  have m_q130 := hF.lt f_q130
  have m_q1 := hF.lt f_q1
  have m_q137 := hF.lt f_q137
  have m_q134 := hF.lt f_q134
  have m_q4 := hF.lt f_q4
  have m_q144 := hF.lt f_q144
  have m_q141 := hF.lt f_q141
  have m_q7 := hF.lt f_q7
  refine fw_new (ci := 1) (fs := [.null, .int 0, .int 0]) X gC_ok hF hS rfl tyX1 tyX1_ok (by decide +kernel) wm_50 wm_145 wm_30 (Nat.le_of_ble_eq_true rfl) (Nat.le_of_ble_eq_true rfl) dX8_init_121 (fun q148 H nq148 zq148 zzq148 hF hS => ?_)
  have l_q19_q148 : q19 < q148 := Nat.lt_of_lt_of_le m_q19 (Nat.le_of_eq zq148.symm)
  have l_q22_q148 : q22 < q148 := Nat.lt_of_lt_of_le m_q22 (Nat.le_of_eq zq148.symm)
  have l_h0_q148 : h0 < q148 := Nat.lt_of_lt_of_le m_h0 (Nat.le_of_eq zq148.symm)
  have l_q28_q148 : q28 < q148 := Nat.lt_of_lt_of_le m_q28 (Nat.le_of_eq zq148.symm)
  have l_q35_q148 : q35 < q148 := Nat.lt_of_lt_of_le m_q35 (Nat.le_of_eq zq148.symm)
  have l_q32_q148 : q32 < q148 := Nat.lt_of_lt_of_le m_q32 (Nat.le_of_eq zq148.symm)
  have l_q42_q148 : q42 < q148 := Nat.lt_of_lt_of_le m_q42 (Nat.le_of_eq zq148.symm)
  have l_q39_q148 : q39 < q148 := Nat.lt_of_lt_of_le m_q39 (Nat.le_of_eq zq148.symm)
  have l_q49_q148 : q49 < q148 := Nat.lt_of_lt_of_le m_q49 (Nat.le_of_eq zq148.symm)
  have l_q46_q148 : q46 < q148 := Nat.lt_of_lt_of_le m_q46 (Nat.le_of_eq zq148.symm)
  have l_q56_q148 : q56 < q148 := Nat.lt_of_lt_of_le m_q56 (Nat.le_of_eq zq148.symm)
  have l_q53_q148 : q53 < q148 := Nat.lt_of_lt_of_le m_q53 (Nat.le_of_eq zq148.symm)
  have l_q62_q148 : q62 < q148 := Nat.lt_of_lt_of_le m_q62 (Nat.le_of_eq zq148.symm)
  have l_q69_q148 : q69 < q148 := Nat.lt_of_lt_of_le m_q69 (Nat.le_of_eq zq148.symm)
  have l_q66_q148 : q66 < q148 := Nat.lt_of_lt_of_le m_q66 (Nat.le_of_eq zq148.symm)
  have l_q76_q148 : q76 < q148 := Nat.lt_of_lt_of_le m_q76 (Nat.le_of_eq zq148.symm)
  have l_q73_q148 : q73 < q148 := Nat.lt_of_lt_of_le m_q73 (Nat.le_of_eq zq148.symm)
  have l_q83_q148 : q83 < q148 := Nat.lt_of_lt_of_le m_q83 (Nat.le_of_eq zq148.symm)
  have l_q80_q148 : q80 < q148 := Nat.lt_of_lt_of_le m_q80 (Nat.le_of_eq zq148.symm)
  have l_q90_q148 : q90 < q148 := Nat.lt_of_lt_of_le m_q90 (Nat.le_of_eq zq148.symm)
  have l_q87_q148 : q87 < q148 := Nat.lt_of_lt_of_le m_q87 (Nat.le_of_eq zq148.symm)
  have l_q96_q148 : q96 < q148 := Nat.lt_of_lt_of_le m_q96 (Nat.le_of_eq zq148.symm)
  have l_q103_q148 : q103 < q148 := Nat.lt_of_lt_of_le m_q103 (Nat.le_of_eq zq148.symm)
  have l_q100_q148 : q100 < q148 := Nat.lt_of_lt_of_le m_q100 (Nat.le_of_eq zq148.symm)
  have l_q110_q148 : q110 < q148 := Nat.lt_of_lt_of_le m_q110 (Nat.le_of_eq zq148.symm)
  have l_q107_q148 : q107 < q148 := Nat.lt_of_lt_of_le m_q107 (Nat.le_of_eq zq148.symm)
  have l_q117_q148 : q117 < q148 := Nat.lt_of_lt_of_le m_q117 (Nat.le_of_eq zq148.symm)
  have l_q114_q148 : q114 < q148 := Nat.lt_of_lt_of_le m_q114 (Nat.le_of_eq zq148.symm)
  have l_q10_q148 : q10 < q148 := Nat.lt_of_lt_of_le m_q10 (Nat.le_of_eq zq148.symm)
  have l_q124_q148 : q124 < q148 := Nat.lt_of_lt_of_le m_q124 (Nat.le_of_eq zq148.symm)
  have l_q121_q148 : q121 < q148 := Nat.lt_of_lt_of_le m_q121 (Nat.le_of_eq zq148.symm)
  have l_q13_q148 : q13 < q148 := Nat.lt_of_lt_of_le m_q13 (Nat.le_of_eq zq148.symm)
  have l_q16_q148 : q16 < q148 := Nat.lt_of_lt_of_le m_q16 (Nat.le_of_eq zq148.symm)
  have l_q130_q148 : q130 < q148 := Nat.lt_of_lt_of_le m_q130 (Nat.le_of_eq zq148.symm)
  have l_q1_q148 : q1 < q148 := Nat.lt_of_lt_of_le m_q1 (Nat.le_of_eq zq148.symm)
  have l_q137_q148 : q137 < q148 := Nat.lt_of_lt_of_le m_q137 (Nat.le_of_eq zq148.symm)
  have l_q134_q148 : q134 < q148 := Nat.lt_of_lt_of_le m_q134 (Nat.le_of_eq zq148.symm)
  have l_q4_q148 : q4 < q148 := Nat.lt_of_lt_of_le m_q4 (Nat.le_of_eq zq148.symm)
  have l_q144_q148 : q144 < q148 := Nat.lt_of_lt_of_le m_q144 (Nat.le_of_eq zq148.symm)
  have l_q141_q148 : q141 < q148 := Nat.lt_of_lt_of_le m_q141 (Nat.le_of_eq zq148.symm)
  have l_q7_q148 : q7 < q148 := Nat.lt_of_lt_of_le m_q7 (Nat.le_of_eq zq148.symm)
  clear m_q19 m_q22 m_h0 m_q28 m_q35 m_q32 m_q42 m_q39 m_q49 m_q46 m_q56 m_q53 m_q62 m_q69 m_q66 m_q76 m_q73 m_q83 m_q80 m_q90 m_q87 m_q96 m_q103 m_q100 m_q110 m_q107 m_q117 m_q114 m_q10 m_q124 m_q121 m_q13 m_q16 m_q130 m_q1 m_q137 m_q134 m_q4 m_q144 m_q141 m_q7
  have hF : fw_P D cls10 A (va_up u147 q148 (some (.inr (1, [.null, .int 0, .int 0])))) H := hF
  obtain ⟨u149, hu149⟩ : ∃ y : fW, y = va_up u147 q148 (some (.inr (1, [.null, .int 0, .int 0]))) := ⟨_, rfl⟩
  rw [← hu149] at hF
  replace f_q19 : u149 q19 = some (.inl (cs 0, 8, .inl (fun _ => 0))) := by rw [hu149]; exact (va_up_ne _ _ (Nat.ne_of_lt l_q19_q148)).trans f_q19
  replace f_q22 : u149 q22 = some (.inr (4, [.int 0, .int 0, .int 0, .int (-1), .int 0, .long 0])) := by rw [hu149]; exact (va_up_ne _ _ (Nat.ne_of_lt l_q22_q148)).trans f_q22
  replace f_h0 : u149 h0 = some (.inr (8, [.ref q1, .ref q4, .ref q7, .ref q10, .ref q13, .ref q16, .ref q19, .ref q22])) := by rw [hu149]; exact (va_up_ne _ _ (Nat.ne_of_lt l_h0_q148)).trans f_h0
  replace f_q28 : u149 q28 = some (.inr (5, [.int 0, .int 0, .null, .null, .int 0, .int 0])) := by rw [hu149]; exact (va_up_ne _ _ (Nat.ne_of_lt l_q28_q148)).trans f_q28
  replace f_q35 : u149 q35 = some (.inl (cs 0, 12, .inl (fun _ => 0))) := by rw [hu149]; exact (va_up_ne _ _ (Nat.ne_of_lt l_q35_q148)).trans f_q35
  replace f_q32 : u149 q32 = some (.inr (0, [.ref q35, .int (-1)])) := by rw [hu149]; exact (va_up_ne _ _ (Nat.ne_of_lt l_q32_q148)).trans f_q32
  replace f_q42 : u149 q42 = some (.inl (cs 7, 12, .inr (.inr (.inr (.inr (fun _ => none)))))) := by rw [hu149]; exact (va_up_ne _ _ (Nat.ne_of_lt l_q42_q148)).trans f_q42
  replace f_q39 : u149 q39 = some (.inr (3, [.ref q42, .int (-1), .int 0])) := by rw [hu149]; exact (va_up_ne _ _ (Nat.ne_of_lt l_q39_q148)).trans f_q39
  replace f_q49 : u149 q49 = some (.inl (cs 0, 144, .inl (fun _ => 0))) := by rw [hu149]; exact (va_up_ne _ _ (Nat.ne_of_lt l_q49_q148)).trans f_q49
  replace f_q46 : u149 q46 = some (.inr (1, [.ref q49, .int (-1), .int 0])) := by rw [hu149]; exact (va_up_ne _ _ (Nat.ne_of_lt l_q46_q148)).trans f_q46
  replace f_q56 : u149 q56 = some (.inl (cs 8, 16, .inr (.inr (.inr (.inr (fun _ => none)))))) := by rw [hu149]; exact (va_up_ne _ _ (Nat.ne_of_lt l_q56_q148)).trans f_q56
  replace f_q53 : u149 q53 = some (.inr (2, [.ref q56, .int 0])) := by rw [hu149]; exact (va_up_ne _ _ (Nat.ne_of_lt l_q53_q148)).trans f_q53
  replace f_q62 : u149 q62 = some (.inr (5, [.int 0, .int 0, .null, .null, .int 0, .int 0])) := by rw [hu149]; exact (va_up_ne _ _ (Nat.ne_of_lt l_q62_q148)).trans f_q62
  replace f_q69 : u149 q69 = some (.inl (cs 0, 12, .inl (fun _ => 0))) := by rw [hu149]; exact (va_up_ne _ _ (Nat.ne_of_lt l_q69_q148)).trans f_q69
  replace f_q66 : u149 q66 = some (.inr (0, [.ref q69, .int (-1)])) := by rw [hu149]; exact (va_up_ne _ _ (Nat.ne_of_lt l_q66_q148)).trans f_q66
  replace f_q76 : u149 q76 = some (.inl (cs 7, 12, .inr (.inr (.inr (.inr (fun _ => none)))))) := by rw [hu149]; exact (va_up_ne _ _ (Nat.ne_of_lt l_q76_q148)).trans f_q76
  replace f_q73 : u149 q73 = some (.inr (3, [.ref q76, .int (-1), .int 0])) := by rw [hu149]; exact (va_up_ne _ _ (Nat.ne_of_lt l_q73_q148)).trans f_q73
  replace f_q83 : u149 q83 = some (.inl (cs 0, 144, .inl (fun _ => 0))) := by rw [hu149]; exact (va_up_ne _ _ (Nat.ne_of_lt l_q83_q148)).trans f_q83
  replace f_q80 : u149 q80 = some (.inr (1, [.ref q83, .int (-1), .int 0])) := by rw [hu149]; exact (va_up_ne _ _ (Nat.ne_of_lt l_q80_q148)).trans f_q80
  replace f_q90 : u149 q90 = some (.inl (cs 8, 16, .inr (.inr (.inr (.inr (fun _ => none)))))) := by rw [hu149]; exact (va_up_ne _ _ (Nat.ne_of_lt l_q90_q148)).trans f_q90
  replace f_q87 : u149 q87 = some (.inr (2, [.ref q90, .int 0])) := by rw [hu149]; exact (va_up_ne _ _ (Nat.ne_of_lt l_q87_q148)).trans f_q87
  replace f_q96 : u149 q96 = some (.inr (5, [.int 0, .int 0, .null, .null, .int 0, .int 0])) := by rw [hu149]; exact (va_up_ne _ _ (Nat.ne_of_lt l_q96_q148)).trans f_q96
  replace f_q103 : u149 q103 = some (.inl (cs 0, 12, .inl (fun _ => 0))) := by rw [hu149]; exact (va_up_ne _ _ (Nat.ne_of_lt l_q103_q148)).trans f_q103
  replace f_q100 : u149 q100 = some (.inr (0, [.ref q103, .int (-1)])) := by rw [hu149]; exact (va_up_ne _ _ (Nat.ne_of_lt l_q100_q148)).trans f_q100
  replace f_q110 : u149 q110 = some (.inl (cs 7, 12, .inr (.inr (.inr (.inr (fun _ => none)))))) := by rw [hu149]; exact (va_up_ne _ _ (Nat.ne_of_lt l_q110_q148)).trans f_q110
  replace f_q107 : u149 q107 = some (.inr (3, [.ref q110, .int (-1), .int 0])) := by rw [hu149]; exact (va_up_ne _ _ (Nat.ne_of_lt l_q107_q148)).trans f_q107
  replace f_q117 : u149 q117 = some (.inl (cs 0, 144, .inl (fun _ => 0))) := by rw [hu149]; exact (va_up_ne _ _ (Nat.ne_of_lt l_q117_q148)).trans f_q117
  replace f_q114 : u149 q114 = some (.inr (1, [.ref q117, .int (-1), .int 0])) := by rw [hu149]; exact (va_up_ne _ _ (Nat.ne_of_lt l_q114_q148)).trans f_q114
  replace f_q10 : u149 q10 = some (.inl (cs 5, 4, .inr (.inr (.inr (.inr (va_up (va_up (va_up (fun _ => none) 0 (some q46)) 1 (some q80)) 2 (some q114))))))) := by rw [hu149]; exact (va_up_ne _ _ (Nat.ne_of_lt l_q10_q148)).trans f_q10
  replace f_q124 : u149 q124 = some (.inl (cs 8, 16, .inr (.inr (.inr (.inr (fun _ => none)))))) := by rw [hu149]; exact (va_up_ne _ _ (Nat.ne_of_lt l_q124_q148)).trans f_q124
  replace f_q121 : u149 q121 = some (.inr (2, [.ref q124, .int 0])) := by rw [hu149]; exact (va_up_ne _ _ (Nat.ne_of_lt l_q121_q148)).trans f_q121
  replace f_q13 : u149 q13 = some (.inl (cs 6, 4, .inr (.inr (.inr (.inr (va_up (va_up (va_up (fun _ => none) 0 (some q53)) 1 (some q87)) 2 (some q121))))))) := by rw [hu149]; exact (va_up_ne _ _ (Nat.ne_of_lt l_q13_q148)).trans f_q13
  replace f_q16 : u149 q16 = some (.inl (cs 0, 4, .inl (upd (upd (upd (fun _ => 0) 0 1) 1 1) 2 1))) := by rw [hu149]; exact (va_up_ne _ _ (Nat.ne_of_lt l_q16_q148)).trans f_q16
  replace f_q130 : u149 q130 = some (.inr (5, [.int 0, .int 0, .null, .null, .int 0, .int 0])) := by rw [hu149]; exact (va_up_ne _ _ (Nat.ne_of_lt l_q130_q148)).trans f_q130
  replace f_q1 : u149 q1 = some (.inl (cs 2, 4, .inr (.inr (.inr (.inr (va_up (va_up (va_up (va_up (fun _ => none) 0 (some q28)) 1 (some q62)) 2 (some q96)) 3 (some q130))))))) := by rw [hu149]; exact (va_up_ne _ _ (Nat.ne_of_lt l_q1_q148)).trans f_q1
  replace f_q137 : u149 q137 = some (.inl (cs 0, 12, .inl (fun _ => 0))) := by rw [hu149]; exact (va_up_ne _ _ (Nat.ne_of_lt l_q137_q148)).trans f_q137
  replace f_q134 : u149 q134 = some (.inr (0, [.ref q137, .int (-1)])) := by rw [hu149]; exact (va_up_ne _ _ (Nat.ne_of_lt l_q134_q148)).trans f_q134
  replace f_q4 : u149 q4 = some (.inl (cs 3, 4, .inr (.inr (.inr (.inr (va_up (va_up (va_up (va_up (fun _ => none) 0 (some q32)) 1 (some q66)) 2 (some q100)) 3 (some q134))))))) := by rw [hu149]; exact (va_up_ne _ _ (Nat.ne_of_lt l_q4_q148)).trans f_q4
  replace f_q144 : u149 q144 = some (.inl (cs 7, 12, .inr (.inr (.inr (.inr (fun _ => none)))))) := by rw [hu149]; exact (va_up_ne _ _ (Nat.ne_of_lt l_q144_q148)).trans f_q144
  replace f_q141 : u149 q141 = some (.inr (3, [.ref q144, .int (-1), .int 0])) := by rw [hu149]; exact (va_up_ne _ _ (Nat.ne_of_lt l_q141_q148)).trans f_q141
  replace f_q7 : u149 q7 = some (.inl (cs 4, 4, .inr (.inr (.inr (.inr (va_up (va_up (va_up (va_up (fun _ => none) 0 (some q39)) 1 (some q73)) 2 (some q107)) 3 (some q141))))))) := by rw [hu149]; exact (va_up_ne _ _ (Nat.ne_of_lt l_q7_q148)).trans f_q7
  have f_q148 : u149 q148 = some (.inr (1, [.null, .int 0, .int 0])) := by rw [hu149]; exact va_up_self _ _ _
  refine lv_dup hx hb dX8_init_124 rfl ?_
  have m_q19 := hF.lt f_q19
  have m_q22 := hF.lt f_q22
  have m_h0 := hF.lt f_h0
  have m_q28 := hF.lt f_q28
  have m_q35 := hF.lt f_q35
  have m_q32 := hF.lt f_q32
  have m_q42 := hF.lt f_q42
  have m_q39 := hF.lt f_q39
  have m_q49 := hF.lt f_q49
  have m_q46 := hF.lt f_q46
  have m_q56 := hF.lt f_q56
  have m_q53 := hF.lt f_q53
  have m_q62 := hF.lt f_q62
  have m_q69 := hF.lt f_q69
  have m_q66 := hF.lt f_q66
  have m_q76 := hF.lt f_q76
  have m_q73 := hF.lt f_q73
  have m_q83 := hF.lt f_q83
  have m_q80 := hF.lt f_q80
  have m_q90 := hF.lt f_q90
  have m_q87 := hF.lt f_q87
  have m_q96 := hF.lt f_q96
  have m_q103 := hF.lt f_q103
  have m_q100 := hF.lt f_q100
  have m_q110 := hF.lt f_q110
  have m_q107 := hF.lt f_q107
  have m_q117 := hF.lt f_q117
  have m_q114 := hF.lt f_q114
  have m_q10 := hF.lt f_q10
  have m_q124 := hF.lt f_q124
  have m_q121 := hF.lt f_q121
  have m_q13 := hF.lt f_q13
  have m_q16 := hF.lt f_q16
  have m_q130 := hF.lt f_q130
  have m_q1 := hF.lt f_q1
  have m_q137 := hF.lt f_q137
  have m_q134 := hF.lt f_q134
  have m_q4 := hF.lt f_q4
  have m_q144 := hF.lt f_q144
  have m_q141 := hF.lt f_q141
  have m_q7 := hF.lt f_q7
  have m_q148 := hF.lt f_q148
  refine fw_callIN (As := []) (rest := [.ref q148, .int 3, .ref q10]) X bs_all nw_all mf_X1_init (c_X1_init l D cs _ _ q148 f_q148) nm_146 wm_147 rfl hF hS rfl ((⟨⟨Nat.le_of_ble_eq_true rfl, Nat.le_of_ble_eq_true rfl⟩, Nat.le_of_ble_eq_true rfl, Nat.le_of_ble_eq_true rfl⟩)) rfl hl.1 rfl (Nat.le_of_ble_eq_true rfl) dX8_init_125 (fun v u150 H locs hp hF hS hz1 hk1 hd1 => ?_)
  obtain ⟨hv1, q151, nq151, hw1⟩ := hp
  subst hv1
  have leq151 := (hd1 q151 (by rw [hw1, va_up_ne _ _ (Ne.symm (gx_ne f_q148 nq151)), va_up_self]; exact fun z => by cases z)).resolve_left (fun z => z nq151)
  have l_q19_q151 : q19 < q151 := Nat.lt_of_lt_of_le m_q19 leq151
  have l_q22_q151 : q22 < q151 := Nat.lt_of_lt_of_le m_q22 leq151
  have l_h0_q151 : h0 < q151 := Nat.lt_of_lt_of_le m_h0 leq151
  have l_q28_q151 : q28 < q151 := Nat.lt_of_lt_of_le m_q28 leq151
  have l_q35_q151 : q35 < q151 := Nat.lt_of_lt_of_le m_q35 leq151
  have l_q32_q151 : q32 < q151 := Nat.lt_of_lt_of_le m_q32 leq151
  have l_q42_q151 : q42 < q151 := Nat.lt_of_lt_of_le m_q42 leq151
  have l_q39_q151 : q39 < q151 := Nat.lt_of_lt_of_le m_q39 leq151
  have l_q49_q151 : q49 < q151 := Nat.lt_of_lt_of_le m_q49 leq151
  have l_q46_q151 : q46 < q151 := Nat.lt_of_lt_of_le m_q46 leq151
  have l_q56_q151 : q56 < q151 := Nat.lt_of_lt_of_le m_q56 leq151
  have l_q53_q151 : q53 < q151 := Nat.lt_of_lt_of_le m_q53 leq151
  have l_q62_q151 : q62 < q151 := Nat.lt_of_lt_of_le m_q62 leq151
  have l_q69_q151 : q69 < q151 := Nat.lt_of_lt_of_le m_q69 leq151
  have l_q66_q151 : q66 < q151 := Nat.lt_of_lt_of_le m_q66 leq151
  have l_q76_q151 : q76 < q151 := Nat.lt_of_lt_of_le m_q76 leq151
  have l_q73_q151 : q73 < q151 := Nat.lt_of_lt_of_le m_q73 leq151
  have l_q83_q151 : q83 < q151 := Nat.lt_of_lt_of_le m_q83 leq151
  have l_q80_q151 : q80 < q151 := Nat.lt_of_lt_of_le m_q80 leq151
  have l_q90_q151 : q90 < q151 := Nat.lt_of_lt_of_le m_q90 leq151
  have l_q87_q151 : q87 < q151 := Nat.lt_of_lt_of_le m_q87 leq151
  have l_q96_q151 : q96 < q151 := Nat.lt_of_lt_of_le m_q96 leq151
  have l_q103_q151 : q103 < q151 := Nat.lt_of_lt_of_le m_q103 leq151
  have l_q100_q151 : q100 < q151 := Nat.lt_of_lt_of_le m_q100 leq151
  have l_q110_q151 : q110 < q151 := Nat.lt_of_lt_of_le m_q110 leq151
  have l_q107_q151 : q107 < q151 := Nat.lt_of_lt_of_le m_q107 leq151
  have l_q117_q151 : q117 < q151 := Nat.lt_of_lt_of_le m_q117 leq151
  have l_q114_q151 : q114 < q151 := Nat.lt_of_lt_of_le m_q114 leq151
  have l_q10_q151 : q10 < q151 := Nat.lt_of_lt_of_le m_q10 leq151
  have l_q124_q151 : q124 < q151 := Nat.lt_of_lt_of_le m_q124 leq151
  have l_q121_q151 : q121 < q151 := Nat.lt_of_lt_of_le m_q121 leq151
  have l_q13_q151 : q13 < q151 := Nat.lt_of_lt_of_le m_q13 leq151
  have l_q16_q151 : q16 < q151 := Nat.lt_of_lt_of_le m_q16 leq151
  have l_q130_q151 : q130 < q151 := Nat.lt_of_lt_of_le m_q130 leq151
  have l_q1_q151 : q1 < q151 := Nat.lt_of_lt_of_le m_q1 leq151
  have l_q137_q151 : q137 < q151 := Nat.lt_of_lt_of_le m_q137 leq151
  have l_q134_q151 : q134 < q151 := Nat.lt_of_lt_of_le m_q134 leq151
  have l_q4_q151 : q4 < q151 := Nat.lt_of_lt_of_le m_q4 leq151
  have l_q144_q151 : q144 < q151 := Nat.lt_of_lt_of_le m_q144 leq151
  have l_q141_q151 : q141 < q151 := Nat.lt_of_lt_of_le m_q141 leq151
  have l_q7_q151 : q7 < q151 := Nat.lt_of_lt_of_le m_q7 leq151
  have l_q148_q151 : q148 < q151 := Nat.lt_of_lt_of_le m_q148 leq151
  clear m_q19 m_q22 m_h0 m_q28 m_q35 m_q32 m_q42 m_q39 m_q49 m_q46 m_q56 m_q53 m_q62 m_q69 m_q66 m_q76 m_q73 m_q83 m_q80 m_q90 m_q87 m_q96 m_q103 m_q100 m_q110 m_q107 m_q117 m_q114 m_q10 m_q124 m_q121 m_q13 m_q16 m_q130 m_q1 m_q137 m_q134 m_q4 m_q144 m_q141 m_q7 m_q148
  rw [hw1] at hF
  clear hw1 hd1 hk1
  obtain ⟨u152, hu152⟩ : ∃ y : fW, y = va_up u149 q151 (some (.inl (cs 0, 144, .inl (fun _ => 0)))) := ⟨_, rfl⟩
  rw [← hu152] at hF
  replace f_q19 : u152 q19 = some (.inl (cs 0, 8, .inl (fun _ => 0))) := by rw [hu152]; exact (va_up_ne _ _ (Nat.ne_of_lt l_q19_q151)).trans f_q19
  replace f_q22 : u152 q22 = some (.inr (4, [.int 0, .int 0, .int 0, .int (-1), .int 0, .long 0])) := by rw [hu152]; exact (va_up_ne _ _ (Nat.ne_of_lt l_q22_q151)).trans f_q22
  replace f_h0 : u152 h0 = some (.inr (8, [.ref q1, .ref q4, .ref q7, .ref q10, .ref q13, .ref q16, .ref q19, .ref q22])) := by rw [hu152]; exact (va_up_ne _ _ (Nat.ne_of_lt l_h0_q151)).trans f_h0
  replace f_q28 : u152 q28 = some (.inr (5, [.int 0, .int 0, .null, .null, .int 0, .int 0])) := by rw [hu152]; exact (va_up_ne _ _ (Nat.ne_of_lt l_q28_q151)).trans f_q28
  replace f_q35 : u152 q35 = some (.inl (cs 0, 12, .inl (fun _ => 0))) := by rw [hu152]; exact (va_up_ne _ _ (Nat.ne_of_lt l_q35_q151)).trans f_q35
  replace f_q32 : u152 q32 = some (.inr (0, [.ref q35, .int (-1)])) := by rw [hu152]; exact (va_up_ne _ _ (Nat.ne_of_lt l_q32_q151)).trans f_q32
  replace f_q42 : u152 q42 = some (.inl (cs 7, 12, .inr (.inr (.inr (.inr (fun _ => none)))))) := by rw [hu152]; exact (va_up_ne _ _ (Nat.ne_of_lt l_q42_q151)).trans f_q42
  replace f_q39 : u152 q39 = some (.inr (3, [.ref q42, .int (-1), .int 0])) := by rw [hu152]; exact (va_up_ne _ _ (Nat.ne_of_lt l_q39_q151)).trans f_q39
  replace f_q49 : u152 q49 = some (.inl (cs 0, 144, .inl (fun _ => 0))) := by rw [hu152]; exact (va_up_ne _ _ (Nat.ne_of_lt l_q49_q151)).trans f_q49
  replace f_q46 : u152 q46 = some (.inr (1, [.ref q49, .int (-1), .int 0])) := by rw [hu152]; exact (va_up_ne _ _ (Nat.ne_of_lt l_q46_q151)).trans f_q46
  replace f_q56 : u152 q56 = some (.inl (cs 8, 16, .inr (.inr (.inr (.inr (fun _ => none)))))) := by rw [hu152]; exact (va_up_ne _ _ (Nat.ne_of_lt l_q56_q151)).trans f_q56
  replace f_q53 : u152 q53 = some (.inr (2, [.ref q56, .int 0])) := by rw [hu152]; exact (va_up_ne _ _ (Nat.ne_of_lt l_q53_q151)).trans f_q53
  replace f_q62 : u152 q62 = some (.inr (5, [.int 0, .int 0, .null, .null, .int 0, .int 0])) := by rw [hu152]; exact (va_up_ne _ _ (Nat.ne_of_lt l_q62_q151)).trans f_q62
  replace f_q69 : u152 q69 = some (.inl (cs 0, 12, .inl (fun _ => 0))) := by rw [hu152]; exact (va_up_ne _ _ (Nat.ne_of_lt l_q69_q151)).trans f_q69
  replace f_q66 : u152 q66 = some (.inr (0, [.ref q69, .int (-1)])) := by rw [hu152]; exact (va_up_ne _ _ (Nat.ne_of_lt l_q66_q151)).trans f_q66
  replace f_q76 : u152 q76 = some (.inl (cs 7, 12, .inr (.inr (.inr (.inr (fun _ => none)))))) := by rw [hu152]; exact (va_up_ne _ _ (Nat.ne_of_lt l_q76_q151)).trans f_q76
  replace f_q73 : u152 q73 = some (.inr (3, [.ref q76, .int (-1), .int 0])) := by rw [hu152]; exact (va_up_ne _ _ (Nat.ne_of_lt l_q73_q151)).trans f_q73
  replace f_q83 : u152 q83 = some (.inl (cs 0, 144, .inl (fun _ => 0))) := by rw [hu152]; exact (va_up_ne _ _ (Nat.ne_of_lt l_q83_q151)).trans f_q83
  replace f_q80 : u152 q80 = some (.inr (1, [.ref q83, .int (-1), .int 0])) := by rw [hu152]; exact (va_up_ne _ _ (Nat.ne_of_lt l_q80_q151)).trans f_q80
  replace f_q90 : u152 q90 = some (.inl (cs 8, 16, .inr (.inr (.inr (.inr (fun _ => none)))))) := by rw [hu152]; exact (va_up_ne _ _ (Nat.ne_of_lt l_q90_q151)).trans f_q90
  replace f_q87 : u152 q87 = some (.inr (2, [.ref q90, .int 0])) := by rw [hu152]; exact (va_up_ne _ _ (Nat.ne_of_lt l_q87_q151)).trans f_q87
  replace f_q96 : u152 q96 = some (.inr (5, [.int 0, .int 0, .null, .null, .int 0, .int 0])) := by rw [hu152]; exact (va_up_ne _ _ (Nat.ne_of_lt l_q96_q151)).trans f_q96
  replace f_q103 : u152 q103 = some (.inl (cs 0, 12, .inl (fun _ => 0))) := by rw [hu152]; exact (va_up_ne _ _ (Nat.ne_of_lt l_q103_q151)).trans f_q103
  replace f_q100 : u152 q100 = some (.inr (0, [.ref q103, .int (-1)])) := by rw [hu152]; exact (va_up_ne _ _ (Nat.ne_of_lt l_q100_q151)).trans f_q100
  replace f_q110 : u152 q110 = some (.inl (cs 7, 12, .inr (.inr (.inr (.inr (fun _ => none)))))) := by rw [hu152]; exact (va_up_ne _ _ (Nat.ne_of_lt l_q110_q151)).trans f_q110
  replace f_q107 : u152 q107 = some (.inr (3, [.ref q110, .int (-1), .int 0])) := by rw [hu152]; exact (va_up_ne _ _ (Nat.ne_of_lt l_q107_q151)).trans f_q107
  replace f_q117 : u152 q117 = some (.inl (cs 0, 144, .inl (fun _ => 0))) := by rw [hu152]; exact (va_up_ne _ _ (Nat.ne_of_lt l_q117_q151)).trans f_q117
  replace f_q114 : u152 q114 = some (.inr (1, [.ref q117, .int (-1), .int 0])) := by rw [hu152]; exact (va_up_ne _ _ (Nat.ne_of_lt l_q114_q151)).trans f_q114
  replace f_q10 : u152 q10 = some (.inl (cs 5, 4, .inr (.inr (.inr (.inr (va_up (va_up (va_up (fun _ => none) 0 (some q46)) 1 (some q80)) 2 (some q114))))))) := by rw [hu152]; exact (va_up_ne _ _ (Nat.ne_of_lt l_q10_q151)).trans f_q10
  replace f_q124 : u152 q124 = some (.inl (cs 8, 16, .inr (.inr (.inr (.inr (fun _ => none)))))) := by rw [hu152]; exact (va_up_ne _ _ (Nat.ne_of_lt l_q124_q151)).trans f_q124
  replace f_q121 : u152 q121 = some (.inr (2, [.ref q124, .int 0])) := by rw [hu152]; exact (va_up_ne _ _ (Nat.ne_of_lt l_q121_q151)).trans f_q121
  replace f_q13 : u152 q13 = some (.inl (cs 6, 4, .inr (.inr (.inr (.inr (va_up (va_up (va_up (fun _ => none) 0 (some q53)) 1 (some q87)) 2 (some q121))))))) := by rw [hu152]; exact (va_up_ne _ _ (Nat.ne_of_lt l_q13_q151)).trans f_q13
  replace f_q16 : u152 q16 = some (.inl (cs 0, 4, .inl (upd (upd (upd (fun _ => 0) 0 1) 1 1) 2 1))) := by rw [hu152]; exact (va_up_ne _ _ (Nat.ne_of_lt l_q16_q151)).trans f_q16
  replace f_q130 : u152 q130 = some (.inr (5, [.int 0, .int 0, .null, .null, .int 0, .int 0])) := by rw [hu152]; exact (va_up_ne _ _ (Nat.ne_of_lt l_q130_q151)).trans f_q130
  replace f_q1 : u152 q1 = some (.inl (cs 2, 4, .inr (.inr (.inr (.inr (va_up (va_up (va_up (va_up (fun _ => none) 0 (some q28)) 1 (some q62)) 2 (some q96)) 3 (some q130))))))) := by rw [hu152]; exact (va_up_ne _ _ (Nat.ne_of_lt l_q1_q151)).trans f_q1
  replace f_q137 : u152 q137 = some (.inl (cs 0, 12, .inl (fun _ => 0))) := by rw [hu152]; exact (va_up_ne _ _ (Nat.ne_of_lt l_q137_q151)).trans f_q137
  replace f_q134 : u152 q134 = some (.inr (0, [.ref q137, .int (-1)])) := by rw [hu152]; exact (va_up_ne _ _ (Nat.ne_of_lt l_q134_q151)).trans f_q134
  replace f_q4 : u152 q4 = some (.inl (cs 3, 4, .inr (.inr (.inr (.inr (va_up (va_up (va_up (va_up (fun _ => none) 0 (some q32)) 1 (some q66)) 2 (some q100)) 3 (some q134))))))) := by rw [hu152]; exact (va_up_ne _ _ (Nat.ne_of_lt l_q4_q151)).trans f_q4
  replace f_q144 : u152 q144 = some (.inl (cs 7, 12, .inr (.inr (.inr (.inr (fun _ => none)))))) := by rw [hu152]; exact (va_up_ne _ _ (Nat.ne_of_lt l_q144_q151)).trans f_q144
  replace f_q141 : u152 q141 = some (.inr (3, [.ref q144, .int (-1), .int 0])) := by rw [hu152]; exact (va_up_ne _ _ (Nat.ne_of_lt l_q141_q151)).trans f_q141
  replace f_q7 : u152 q7 = some (.inl (cs 4, 4, .inr (.inr (.inr (.inr (va_up (va_up (va_up (va_up (fun _ => none) 0 (some q39)) 1 (some q73)) 2 (some q107)) 3 (some q141))))))) := by rw [hu152]; exact (va_up_ne _ _ (Nat.ne_of_lt l_q7_q151)).trans f_q7
  replace f_q148 : u152 q148 = some (.inr (1, [.null, .int 0, .int 0])) := by rw [hu152]; exact (va_up_ne _ _ (Nat.ne_of_lt l_q148_q151)).trans f_q148
  have f_q151 : u152 q151 = some (.inl (cs 0, 144, .inl (fun _ => 0))) := by rw [hu152]; exact va_up_self _ _ _
  obtain ⟨u153, hu153⟩ : ∃ y : fW, y = va_up u152 q148 (some (.inr (1, [.ref q151, .int (-1), .int 0]))) := ⟨_, rfl⟩
  rw [← hu153] at hF
  replace f_q19 : u153 q19 = some (.inl (cs 0, 8, .inl (fun _ => 0))) := by rw [hu153]; exact (va_up_ne _ _ (Nat.ne_of_lt l_q19_q148)).trans f_q19
  replace f_q22 : u153 q22 = some (.inr (4, [.int 0, .int 0, .int 0, .int (-1), .int 0, .long 0])) := by rw [hu153]; exact (va_up_ne _ _ (Nat.ne_of_lt l_q22_q148)).trans f_q22
  replace f_h0 : u153 h0 = some (.inr (8, [.ref q1, .ref q4, .ref q7, .ref q10, .ref q13, .ref q16, .ref q19, .ref q22])) := by rw [hu153]; exact (va_up_ne _ _ (Nat.ne_of_lt l_h0_q148)).trans f_h0
  replace f_q28 : u153 q28 = some (.inr (5, [.int 0, .int 0, .null, .null, .int 0, .int 0])) := by rw [hu153]; exact (va_up_ne _ _ (Nat.ne_of_lt l_q28_q148)).trans f_q28
  replace f_q35 : u153 q35 = some (.inl (cs 0, 12, .inl (fun _ => 0))) := by rw [hu153]; exact (va_up_ne _ _ (Nat.ne_of_lt l_q35_q148)).trans f_q35
  replace f_q32 : u153 q32 = some (.inr (0, [.ref q35, .int (-1)])) := by rw [hu153]; exact (va_up_ne _ _ (Nat.ne_of_lt l_q32_q148)).trans f_q32
  replace f_q42 : u153 q42 = some (.inl (cs 7, 12, .inr (.inr (.inr (.inr (fun _ => none)))))) := by rw [hu153]; exact (va_up_ne _ _ (Nat.ne_of_lt l_q42_q148)).trans f_q42
  replace f_q39 : u153 q39 = some (.inr (3, [.ref q42, .int (-1), .int 0])) := by rw [hu153]; exact (va_up_ne _ _ (Nat.ne_of_lt l_q39_q148)).trans f_q39
  replace f_q49 : u153 q49 = some (.inl (cs 0, 144, .inl (fun _ => 0))) := by rw [hu153]; exact (va_up_ne _ _ (Nat.ne_of_lt l_q49_q148)).trans f_q49
  replace f_q46 : u153 q46 = some (.inr (1, [.ref q49, .int (-1), .int 0])) := by rw [hu153]; exact (va_up_ne _ _ (Nat.ne_of_lt l_q46_q148)).trans f_q46
  replace f_q56 : u153 q56 = some (.inl (cs 8, 16, .inr (.inr (.inr (.inr (fun _ => none)))))) := by rw [hu153]; exact (va_up_ne _ _ (Nat.ne_of_lt l_q56_q148)).trans f_q56
  replace f_q53 : u153 q53 = some (.inr (2, [.ref q56, .int 0])) := by rw [hu153]; exact (va_up_ne _ _ (Nat.ne_of_lt l_q53_q148)).trans f_q53
  replace f_q62 : u153 q62 = some (.inr (5, [.int 0, .int 0, .null, .null, .int 0, .int 0])) := by rw [hu153]; exact (va_up_ne _ _ (Nat.ne_of_lt l_q62_q148)).trans f_q62
  replace f_q69 : u153 q69 = some (.inl (cs 0, 12, .inl (fun _ => 0))) := by rw [hu153]; exact (va_up_ne _ _ (Nat.ne_of_lt l_q69_q148)).trans f_q69
  replace f_q66 : u153 q66 = some (.inr (0, [.ref q69, .int (-1)])) := by rw [hu153]; exact (va_up_ne _ _ (Nat.ne_of_lt l_q66_q148)).trans f_q66
  replace f_q76 : u153 q76 = some (.inl (cs 7, 12, .inr (.inr (.inr (.inr (fun _ => none)))))) := by rw [hu153]; exact (va_up_ne _ _ (Nat.ne_of_lt l_q76_q148)).trans f_q76
  replace f_q73 : u153 q73 = some (.inr (3, [.ref q76, .int (-1), .int 0])) := by rw [hu153]; exact (va_up_ne _ _ (Nat.ne_of_lt l_q73_q148)).trans f_q73
  replace f_q83 : u153 q83 = some (.inl (cs 0, 144, .inl (fun _ => 0))) := by rw [hu153]; exact (va_up_ne _ _ (Nat.ne_of_lt l_q83_q148)).trans f_q83
  replace f_q80 : u153 q80 = some (.inr (1, [.ref q83, .int (-1), .int 0])) := by rw [hu153]; exact (va_up_ne _ _ (Nat.ne_of_lt l_q80_q148)).trans f_q80
  replace f_q90 : u153 q90 = some (.inl (cs 8, 16, .inr (.inr (.inr (.inr (fun _ => none)))))) := by rw [hu153]; exact (va_up_ne _ _ (Nat.ne_of_lt l_q90_q148)).trans f_q90
  replace f_q87 : u153 q87 = some (.inr (2, [.ref q90, .int 0])) := by rw [hu153]; exact (va_up_ne _ _ (Nat.ne_of_lt l_q87_q148)).trans f_q87
  replace f_q96 : u153 q96 = some (.inr (5, [.int 0, .int 0, .null, .null, .int 0, .int 0])) := by rw [hu153]; exact (va_up_ne _ _ (Nat.ne_of_lt l_q96_q148)).trans f_q96
  replace f_q103 : u153 q103 = some (.inl (cs 0, 12, .inl (fun _ => 0))) := by rw [hu153]; exact (va_up_ne _ _ (Nat.ne_of_lt l_q103_q148)).trans f_q103
  replace f_q100 : u153 q100 = some (.inr (0, [.ref q103, .int (-1)])) := by rw [hu153]; exact (va_up_ne _ _ (Nat.ne_of_lt l_q100_q148)).trans f_q100
  replace f_q110 : u153 q110 = some (.inl (cs 7, 12, .inr (.inr (.inr (.inr (fun _ => none)))))) := by rw [hu153]; exact (va_up_ne _ _ (Nat.ne_of_lt l_q110_q148)).trans f_q110
  replace f_q107 : u153 q107 = some (.inr (3, [.ref q110, .int (-1), .int 0])) := by rw [hu153]; exact (va_up_ne _ _ (Nat.ne_of_lt l_q107_q148)).trans f_q107
  replace f_q117 : u153 q117 = some (.inl (cs 0, 144, .inl (fun _ => 0))) := by rw [hu153]; exact (va_up_ne _ _ (Nat.ne_of_lt l_q117_q148)).trans f_q117
  replace f_q114 : u153 q114 = some (.inr (1, [.ref q117, .int (-1), .int 0])) := by rw [hu153]; exact (va_up_ne _ _ (Nat.ne_of_lt l_q114_q148)).trans f_q114
  replace f_q10 : u153 q10 = some (.inl (cs 5, 4, .inr (.inr (.inr (.inr (va_up (va_up (va_up (fun _ => none) 0 (some q46)) 1 (some q80)) 2 (some q114))))))) := by rw [hu153]; exact (va_up_ne _ _ (Nat.ne_of_lt l_q10_q148)).trans f_q10
  replace f_q124 : u153 q124 = some (.inl (cs 8, 16, .inr (.inr (.inr (.inr (fun _ => none)))))) := by rw [hu153]; exact (va_up_ne _ _ (Nat.ne_of_lt l_q124_q148)).trans f_q124
  replace f_q121 : u153 q121 = some (.inr (2, [.ref q124, .int 0])) := by rw [hu153]; exact (va_up_ne _ _ (Nat.ne_of_lt l_q121_q148)).trans f_q121
  replace f_q13 : u153 q13 = some (.inl (cs 6, 4, .inr (.inr (.inr (.inr (va_up (va_up (va_up (fun _ => none) 0 (some q53)) 1 (some q87)) 2 (some q121))))))) := by rw [hu153]; exact (va_up_ne _ _ (Nat.ne_of_lt l_q13_q148)).trans f_q13
  replace f_q16 : u153 q16 = some (.inl (cs 0, 4, .inl (upd (upd (upd (fun _ => 0) 0 1) 1 1) 2 1))) := by rw [hu153]; exact (va_up_ne _ _ (Nat.ne_of_lt l_q16_q148)).trans f_q16
  replace f_q130 : u153 q130 = some (.inr (5, [.int 0, .int 0, .null, .null, .int 0, .int 0])) := by rw [hu153]; exact (va_up_ne _ _ (Nat.ne_of_lt l_q130_q148)).trans f_q130
  replace f_q1 : u153 q1 = some (.inl (cs 2, 4, .inr (.inr (.inr (.inr (va_up (va_up (va_up (va_up (fun _ => none) 0 (some q28)) 1 (some q62)) 2 (some q96)) 3 (some q130))))))) := by rw [hu153]; exact (va_up_ne _ _ (Nat.ne_of_lt l_q1_q148)).trans f_q1
  replace f_q137 : u153 q137 = some (.inl (cs 0, 12, .inl (fun _ => 0))) := by rw [hu153]; exact (va_up_ne _ _ (Nat.ne_of_lt l_q137_q148)).trans f_q137
  replace f_q134 : u153 q134 = some (.inr (0, [.ref q137, .int (-1)])) := by rw [hu153]; exact (va_up_ne _ _ (Nat.ne_of_lt l_q134_q148)).trans f_q134
  replace f_q4 : u153 q4 = some (.inl (cs 3, 4, .inr (.inr (.inr (.inr (va_up (va_up (va_up (va_up (fun _ => none) 0 (some q32)) 1 (some q66)) 2 (some q100)) 3 (some q134))))))) := by rw [hu153]; exact (va_up_ne _ _ (Nat.ne_of_lt l_q4_q148)).trans f_q4
  replace f_q144 : u153 q144 = some (.inl (cs 7, 12, .inr (.inr (.inr (.inr (fun _ => none)))))) := by rw [hu153]; exact (va_up_ne _ _ (Nat.ne_of_lt l_q144_q148)).trans f_q144
  replace f_q141 : u153 q141 = some (.inr (3, [.ref q144, .int (-1), .int 0])) := by rw [hu153]; exact (va_up_ne _ _ (Nat.ne_of_lt l_q141_q148)).trans f_q141
  replace f_q7 : u153 q7 = some (.inl (cs 4, 4, .inr (.inr (.inr (.inr (va_up (va_up (va_up (va_up (fun _ => none) 0 (some q39)) 1 (some q73)) 2 (some q107)) 3 (some q141))))))) := by rw [hu153]; exact (va_up_ne _ _ (Nat.ne_of_lt l_q7_q148)).trans f_q7
  replace f_q151 : u153 q151 = some (.inl (cs 0, 144, .inl (fun _ => 0))) := by rw [hu153]; exact (va_up_ne _ _ (Nat.ne_of_gt l_q148_q151)).trans f_q151
  replace f_q148 : u153 q148 = some (.inr (1, [.ref q151, .int (-1), .int 0])) := by rw [hu153]; exact va_up_self _ _ _
  refine W.eq (g2 := F0 m 128 ls [.ref q148, .int 3, .ref q10]) rfl ?_
  refine fw_astq X hF hS f_q10 5 rfl f_q148 rfl (vp_in_iff.mpr (by decide)) dX8_init_128 (fun H locs hF hS => ?_)
  have hF : fw_P D cls10 A (va_up u153 q10 (some (.inl (cs 5, 4, .inr (.inr (.inr (.inr (va_up (va_up (va_up (va_up (fun _ => none) 0 (some q46)) 1 (some q80)) 2 (some q114)) 3 (some q148))))))))) H := hF
  obtain ⟨u154, hu154⟩ : ∃ y : fW, y = va_up u153 q10 (some (.inl (cs 5, 4, .inr (.inr (.inr (.inr (va_up (va_up (va_up (va_up (fun _ => none) 0 (some q46)) 1 (some q80)) 2 (some q114)) 3 (some q148)))))))) := ⟨_, rfl⟩
  rw [← hu154] at hF
  replace f_q19 : u154 q19 = some (.inl (cs 0, 8, .inl (fun _ => 0))) := by rw [hu154]; exact (va_up_ne _ _ (Nat.ne_of_gt l_q10_q19)).trans f_q19
  replace f_q22 : u154 q22 = some (.inr (4, [.int 0, .int 0, .int 0, .int (-1), .int 0, .long 0])) := by rw [hu154]; exact (va_up_ne _ _ (Nat.ne_of_gt l_q10_q22)).trans f_q22
  replace f_h0 : u154 h0 = some (.inr (8, [.ref q1, .ref q4, .ref q7, .ref q10, .ref q13, .ref q16, .ref q19, .ref q22])) := by rw [hu154]; exact (va_up_ne _ _ (Nat.ne_of_lt l_h0_q10)).trans f_h0
  replace f_q28 : u154 q28 = some (.inr (5, [.int 0, .int 0, .null, .null, .int 0, .int 0])) := by rw [hu154]; exact (va_up_ne _ _ (Nat.ne_of_gt l_q10_q28)).trans f_q28
  replace f_q35 : u154 q35 = some (.inl (cs 0, 12, .inl (fun _ => 0))) := by rw [hu154]; exact (va_up_ne _ _ (Nat.ne_of_gt l_q10_q35)).trans f_q35
  replace f_q32 : u154 q32 = some (.inr (0, [.ref q35, .int (-1)])) := by rw [hu154]; exact (va_up_ne _ _ (Nat.ne_of_gt l_q10_q32)).trans f_q32
  replace f_q42 : u154 q42 = some (.inl (cs 7, 12, .inr (.inr (.inr (.inr (fun _ => none)))))) := by rw [hu154]; exact (va_up_ne _ _ (Nat.ne_of_gt l_q10_q42)).trans f_q42
  replace f_q39 : u154 q39 = some (.inr (3, [.ref q42, .int (-1), .int 0])) := by rw [hu154]; exact (va_up_ne _ _ (Nat.ne_of_gt l_q10_q39)).trans f_q39
  replace f_q49 : u154 q49 = some (.inl (cs 0, 144, .inl (fun _ => 0))) := by rw [hu154]; exact (va_up_ne _ _ (Nat.ne_of_gt l_q10_q49)).trans f_q49
  replace f_q46 : u154 q46 = some (.inr (1, [.ref q49, .int (-1), .int 0])) := by rw [hu154]; exact (va_up_ne _ _ (Nat.ne_of_gt l_q10_q46)).trans f_q46
  replace f_q56 : u154 q56 = some (.inl (cs 8, 16, .inr (.inr (.inr (.inr (fun _ => none)))))) := by rw [hu154]; exact (va_up_ne _ _ (Nat.ne_of_gt l_q10_q56)).trans f_q56
  replace f_q53 : u154 q53 = some (.inr (2, [.ref q56, .int 0])) := by rw [hu154]; exact (va_up_ne _ _ (Nat.ne_of_gt l_q10_q53)).trans f_q53
  replace f_q62 : u154 q62 = some (.inr (5, [.int 0, .int 0, .null, .null, .int 0, .int 0])) := by rw [hu154]; exact (va_up_ne _ _ (Nat.ne_of_gt l_q10_q62)).trans f_q62
  replace f_q69 : u154 q69 = some (.inl (cs 0, 12, .inl (fun _ => 0))) := by rw [hu154]; exact (va_up_ne _ _ (Nat.ne_of_gt l_q10_q69)).trans f_q69
  replace f_q66 : u154 q66 = some (.inr (0, [.ref q69, .int (-1)])) := by rw [hu154]; exact (va_up_ne _ _ (Nat.ne_of_gt l_q10_q66)).trans f_q66
  replace f_q76 : u154 q76 = some (.inl (cs 7, 12, .inr (.inr (.inr (.inr (fun _ => none)))))) := by rw [hu154]; exact (va_up_ne _ _ (Nat.ne_of_gt l_q10_q76)).trans f_q76
  replace f_q73 : u154 q73 = some (.inr (3, [.ref q76, .int (-1), .int 0])) := by rw [hu154]; exact (va_up_ne _ _ (Nat.ne_of_gt l_q10_q73)).trans f_q73
  replace f_q83 : u154 q83 = some (.inl (cs 0, 144, .inl (fun _ => 0))) := by rw [hu154]; exact (va_up_ne _ _ (Nat.ne_of_gt l_q10_q83)).trans f_q83
  replace f_q80 : u154 q80 = some (.inr (1, [.ref q83, .int (-1), .int 0])) := by rw [hu154]; exact (va_up_ne _ _ (Nat.ne_of_gt l_q10_q80)).trans f_q80
  replace f_q90 : u154 q90 = some (.inl (cs 8, 16, .inr (.inr (.inr (.inr (fun _ => none)))))) := by rw [hu154]; exact (va_up_ne _ _ (Nat.ne_of_gt l_q10_q90)).trans f_q90
  replace f_q87 : u154 q87 = some (.inr (2, [.ref q90, .int 0])) := by rw [hu154]; exact (va_up_ne _ _ (Nat.ne_of_gt l_q10_q87)).trans f_q87
  replace f_q96 : u154 q96 = some (.inr (5, [.int 0, .int 0, .null, .null, .int 0, .int 0])) := by rw [hu154]; exact (va_up_ne _ _ (Nat.ne_of_gt l_q10_q96)).trans f_q96
  replace f_q103 : u154 q103 = some (.inl (cs 0, 12, .inl (fun _ => 0))) := by rw [hu154]; exact (va_up_ne _ _ (Nat.ne_of_gt l_q10_q103)).trans f_q103
  replace f_q100 : u154 q100 = some (.inr (0, [.ref q103, .int (-1)])) := by rw [hu154]; exact (va_up_ne _ _ (Nat.ne_of_gt l_q10_q100)).trans f_q100
  replace f_q110 : u154 q110 = some (.inl (cs 7, 12, .inr (.inr (.inr (.inr (fun _ => none)))))) := by rw [hu154]; exact (va_up_ne _ _ (Nat.ne_of_gt l_q10_q110)).trans f_q110
  replace f_q107 : u154 q107 = some (.inr (3, [.ref q110, .int (-1), .int 0])) := by rw [hu154]; exact (va_up_ne _ _ (Nat.ne_of_gt l_q10_q107)).trans f_q107
  replace f_q117 : u154 q117 = some (.inl (cs 0, 144, .inl (fun _ => 0))) := by rw [hu154]; exact (va_up_ne _ _ (Nat.ne_of_gt l_q10_q117)).trans f_q117
  replace f_q114 : u154 q114 = some (.inr (1, [.ref q117, .int (-1), .int 0])) := by rw [hu154]; exact (va_up_ne _ _ (Nat.ne_of_gt l_q10_q114)).trans f_q114
  replace f_q124 : u154 q124 = some (.inl (cs 8, 16, .inr (.inr (.inr (.inr (fun _ => none)))))) := by rw [hu154]; exact (va_up_ne _ _ (Nat.ne_of_gt l_q10_q124)).trans f_q124
  replace f_q121 : u154 q121 = some (.inr (2, [.ref q124, .int 0])) := by rw [hu154]; exact (va_up_ne _ _ (Nat.ne_of_gt l_q10_q121)).trans f_q121
  replace f_q13 : u154 q13 = some (.inl (cs 6, 4, .inr (.inr (.inr (.inr (va_up (va_up (va_up (fun _ => none) 0 (some q53)) 1 (some q87)) 2 (some q121))))))) := by rw [hu154]; exact (va_up_ne _ _ (Nat.ne_of_gt l_q10_q13)).trans f_q13
  replace f_q16 : u154 q16 = some (.inl (cs 0, 4, .inl (upd (upd (upd (fun _ => 0) 0 1) 1 1) 2 1))) := by rw [hu154]; exact (va_up_ne _ _ (Nat.ne_of_gt l_q10_q16)).trans f_q16
  replace f_q130 : u154 q130 = some (.inr (5, [.int 0, .int 0, .null, .null, .int 0, .int 0])) := by rw [hu154]; exact (va_up_ne _ _ (Nat.ne_of_gt l_q10_q130)).trans f_q130
  replace f_q1 : u154 q1 = some (.inl (cs 2, 4, .inr (.inr (.inr (.inr (va_up (va_up (va_up (va_up (fun _ => none) 0 (some q28)) 1 (some q62)) 2 (some q96)) 3 (some q130))))))) := by rw [hu154]; exact (va_up_ne _ _ (Nat.ne_of_lt l_q1_q10)).trans f_q1
  replace f_q137 : u154 q137 = some (.inl (cs 0, 12, .inl (fun _ => 0))) := by rw [hu154]; exact (va_up_ne _ _ (Nat.ne_of_gt l_q10_q137)).trans f_q137
  replace f_q134 : u154 q134 = some (.inr (0, [.ref q137, .int (-1)])) := by rw [hu154]; exact (va_up_ne _ _ (Nat.ne_of_gt l_q10_q134)).trans f_q134
  replace f_q4 : u154 q4 = some (.inl (cs 3, 4, .inr (.inr (.inr (.inr (va_up (va_up (va_up (va_up (fun _ => none) 0 (some q32)) 1 (some q66)) 2 (some q100)) 3 (some q134))))))) := by rw [hu154]; exact (va_up_ne _ _ (Nat.ne_of_lt l_q4_q10)).trans f_q4
  replace f_q144 : u154 q144 = some (.inl (cs 7, 12, .inr (.inr (.inr (.inr (fun _ => none)))))) := by rw [hu154]; exact (va_up_ne _ _ (Nat.ne_of_gt l_q10_q144)).trans f_q144
  replace f_q141 : u154 q141 = some (.inr (3, [.ref q144, .int (-1), .int 0])) := by rw [hu154]; exact (va_up_ne _ _ (Nat.ne_of_gt l_q10_q141)).trans f_q141
  replace f_q7 : u154 q7 = some (.inl (cs 4, 4, .inr (.inr (.inr (.inr (va_up (va_up (va_up (va_up (fun _ => none) 0 (some q39)) 1 (some q73)) 2 (some q107)) 3 (some q141))))))) := by rw [hu154]; exact (va_up_ne _ _ (Nat.ne_of_lt l_q7_q10)).trans f_q7
  replace f_q151 : u154 q151 = some (.inl (cs 0, 144, .inl (fun _ => 0))) := by rw [hu154]; exact (va_up_ne _ _ (Nat.ne_of_gt l_q10_q151)).trans f_q151
  replace f_q148 : u154 q148 = some (.inr (1, [.ref q151, .int (-1), .int 0])) := by rw [hu154]; exact (va_up_ne _ _ (Nat.ne_of_gt l_q10_q148)).trans f_q148
  replace f_q10 : u154 q10 = some (.inl (cs 5, 4, .inr (.inr (.inr (.inr (va_up (va_up (va_up (va_up (fun _ => none) 0 (some q46)) 1 (some q80)) 2 (some q114)) 3 (some q148))))))) := by rw [hu154]; exact va_up_self _ _ _
  refine lv_aload_n hx hb dX8_init_129 rfl (lv_at hl 1 rfl) ?_
  refine fw_get X gC_ok hF f_h0 rfl 4 (by decide) wm_180 rfl dX8_init_130 ?_
  refine lv_iload_n hx hb dX8_init_133 rfl (lv_at hl 0 rfl) ?_
  have m_q19 := hF.lt f_q19
  have m_q22 := hF.lt f_q22
  have m_h0 := hF.lt f_h0
  have m_q28 := hF.lt f_q28
  have m_q35 := hF.lt f_q35
  have m_q32 := hF.lt f_q32
  have m_q42 := hF.lt f_q42
  have m_q39 := hF.lt f_q39
  have m_q49 := hF.lt f_q49
  have m_q46 := hF.lt f_q46
  have m_q56 := hF.lt f_q56
  have m_q53 := hF.lt f_q53
  have m_q62 := hF.lt f_q62
  have m_q69 := hF.lt f_q69
  have m_q66 := hF.lt f_q66
  have m_q76 := hF.lt f_q76
  have m_q73 := hF.lt f_q73
  have m_q83 := hF.lt f_q83
  have m_q80 := hF.lt f_q80
  have m_q90 := hF.lt f_q90
  have m_q87 := hF.lt f_q87
  have m_q96 := hF.lt f_q96
  have m_q103 := hF.lt f_q103
  have m_q100 := hF.lt f_q100
  have m_q110 := hF.lt f_q110
  have m_q107 := hF.lt f_q107
  have m_q117 := hF.lt f_q117
  have m_q114 := hF.lt f_q114
  have m_q124 := hF.lt f_q124
  have m_q121 := hF.lt f_q121
  have m_q13 := hF.lt f_q13
  have m_q16 := hF.lt f_q16
  have m_q130 := hF.lt f_q130
  have m_q1 := hF.lt f_q1
  have m_q137 := hF.lt f_q137
  have m_q134 := hF.lt f_q134
  have m_q4 := hF.lt f_q4
  have m_q144 := hF.lt f_q144
  have m_q141 := hF.lt f_q141
  have m_q7 := hF.lt f_q7
  have m_q151 := hF.lt f_q151
  have m_q148 := hF.lt f_q148
  have m_q10 := hF.lt f_q10
  refine fw_new (ci := 2) (fs := [.null, .int 0]) X gC_ok hF hS rfl tyX2 tyX2_ok (by decide +kernel) wm_52 wm_161 wm_31 (Nat.le_of_ble_eq_true rfl) (Nat.le_of_ble_eq_true rfl) dX8_init_134 (fun q155 H nq155 zq155 zzq155 hF hS => ?_)
  have l_q19_q155 : q19 < q155 := Nat.lt_of_lt_of_le m_q19 (Nat.le_of_eq zq155.symm)
  have l_q22_q155 : q22 < q155 := Nat.lt_of_lt_of_le m_q22 (Nat.le_of_eq zq155.symm)
  have l_h0_q155 : h0 < q155 := Nat.lt_of_lt_of_le m_h0 (Nat.le_of_eq zq155.symm)
  have l_q28_q155 : q28 < q155 := Nat.lt_of_lt_of_le m_q28 (Nat.le_of_eq zq155.symm)
  have l_q35_q155 : q35 < q155 := Nat.lt_of_lt_of_le m_q35 (Nat.le_of_eq zq155.symm)
  have l_q32_q155 : q32 < q155 := Nat.lt_of_lt_of_le m_q32 (Nat.le_of_eq zq155.symm)
  have l_q42_q155 : q42 < q155 := Nat.lt_of_lt_of_le m_q42 (Nat.le_of_eq zq155.symm)
  have l_q39_q155 : q39 < q155 := Nat.lt_of_lt_of_le m_q39 (Nat.le_of_eq zq155.symm)
  have l_q49_q155 : q49 < q155 := Nat.lt_of_lt_of_le m_q49 (Nat.le_of_eq zq155.symm)
  have l_q46_q155 : q46 < q155 := Nat.lt_of_lt_of_le m_q46 (Nat.le_of_eq zq155.symm)
  have l_q56_q155 : q56 < q155 := Nat.lt_of_lt_of_le m_q56 (Nat.le_of_eq zq155.symm)
  have l_q53_q155 : q53 < q155 := Nat.lt_of_lt_of_le m_q53 (Nat.le_of_eq zq155.symm)
  have l_q62_q155 : q62 < q155 := Nat.lt_of_lt_of_le m_q62 (Nat.le_of_eq zq155.symm)
  have l_q69_q155 : q69 < q155 := Nat.lt_of_lt_of_le m_q69 (Nat.le_of_eq zq155.symm)
  have l_q66_q155 : q66 < q155 := Nat.lt_of_lt_of_le m_q66 (Nat.le_of_eq zq155.symm)
  have l_q76_q155 : q76 < q155 := Nat.lt_of_lt_of_le m_q76 (Nat.le_of_eq zq155.symm)
  have l_q73_q155 : q73 < q155 := Nat.lt_of_lt_of_le m_q73 (Nat.le_of_eq zq155.symm)
  have l_q83_q155 : q83 < q155 := Nat.lt_of_lt_of_le m_q83 (Nat.le_of_eq zq155.symm)
  have l_q80_q155 : q80 < q155 := Nat.lt_of_lt_of_le m_q80 (Nat.le_of_eq zq155.symm)
  have l_q90_q155 : q90 < q155 := Nat.lt_of_lt_of_le m_q90 (Nat.le_of_eq zq155.symm)
  have l_q87_q155 : q87 < q155 := Nat.lt_of_lt_of_le m_q87 (Nat.le_of_eq zq155.symm)
  have l_q96_q155 : q96 < q155 := Nat.lt_of_lt_of_le m_q96 (Nat.le_of_eq zq155.symm)
  have l_q103_q155 : q103 < q155 := Nat.lt_of_lt_of_le m_q103 (Nat.le_of_eq zq155.symm)
  have l_q100_q155 : q100 < q155 := Nat.lt_of_lt_of_le m_q100 (Nat.le_of_eq zq155.symm)
  have l_q110_q155 : q110 < q155 := Nat.lt_of_lt_of_le m_q110 (Nat.le_of_eq zq155.symm)
  have l_q107_q155 : q107 < q155 := Nat.lt_of_lt_of_le m_q107 (Nat.le_of_eq zq155.symm)
  have l_q117_q155 : q117 < q155 := Nat.lt_of_lt_of_le m_q117 (Nat.le_of_eq zq155.symm)
  have l_q114_q155 : q114 < q155 := Nat.lt_of_lt_of_le m_q114 (Nat.le_of_eq zq155.symm)
  have l_q124_q155 : q124 < q155 := Nat.lt_of_lt_of_le m_q124 (Nat.le_of_eq zq155.symm)
  have l_q121_q155 : q121 < q155 := Nat.lt_of_lt_of_le m_q121 (Nat.le_of_eq zq155.symm)
  have l_q13_q155 : q13 < q155 := Nat.lt_of_lt_of_le m_q13 (Nat.le_of_eq zq155.symm)
  have l_q16_q155 : q16 < q155 := Nat.lt_of_lt_of_le m_q16 (Nat.le_of_eq zq155.symm)
  have l_q130_q155 : q130 < q155 := Nat.lt_of_lt_of_le m_q130 (Nat.le_of_eq zq155.symm)
  have l_q1_q155 : q1 < q155 := Nat.lt_of_lt_of_le m_q1 (Nat.le_of_eq zq155.symm)
  have l_q137_q155 : q137 < q155 := Nat.lt_of_lt_of_le m_q137 (Nat.le_of_eq zq155.symm)
  have l_q134_q155 : q134 < q155 := Nat.lt_of_lt_of_le m_q134 (Nat.le_of_eq zq155.symm)
  have l_q4_q155 : q4 < q155 := Nat.lt_of_lt_of_le m_q4 (Nat.le_of_eq zq155.symm)
  have l_q144_q155 : q144 < q155 := Nat.lt_of_lt_of_le m_q144 (Nat.le_of_eq zq155.symm)
  have l_q141_q155 : q141 < q155 := Nat.lt_of_lt_of_le m_q141 (Nat.le_of_eq zq155.symm)
  have l_q7_q155 : q7 < q155 := Nat.lt_of_lt_of_le m_q7 (Nat.le_of_eq zq155.symm)
  have l_q151_q155 : q151 < q155 := Nat.lt_of_lt_of_le m_q151 (Nat.le_of_eq zq155.symm)
  have l_q148_q155 : q148 < q155 := Nat.lt_of_lt_of_le m_q148 (Nat.le_of_eq zq155.symm)
  have l_q10_q155 : q10 < q155 := Nat.lt_of_lt_of_le m_q10 (Nat.le_of_eq zq155.symm)
  clear m_q19 m_q22 m_h0 m_q28 m_q35 m_q32 m_q42 m_q39 m_q49 m_q46 m_q56 m_q53 m_q62 m_q69 m_q66 m_q76 m_q73 m_q83 m_q80 m_q90 m_q87 m_q96 m_q103 m_q100 m_q110 m_q107 m_q117 m_q114 m_q124 m_q121 m_q13 m_q16 m_q130 m_q1 m_q137 m_q134 m_q4 m_q144 m_q141 m_q7 m_q151 m_q148 m_q10
  have hF : fw_P D cls10 A (va_up u154 q155 (some (.inr (2, [.null, .int 0])))) H := hF
  obtain ⟨u156, hu156⟩ : ∃ y : fW, y = va_up u154 q155 (some (.inr (2, [.null, .int 0]))) := ⟨_, rfl⟩
  rw [← hu156] at hF
  replace f_q19 : u156 q19 = some (.inl (cs 0, 8, .inl (fun _ => 0))) := by rw [hu156]; exact (va_up_ne _ _ (Nat.ne_of_lt l_q19_q155)).trans f_q19
  replace f_q22 : u156 q22 = some (.inr (4, [.int 0, .int 0, .int 0, .int (-1), .int 0, .long 0])) := by rw [hu156]; exact (va_up_ne _ _ (Nat.ne_of_lt l_q22_q155)).trans f_q22
  replace f_h0 : u156 h0 = some (.inr (8, [.ref q1, .ref q4, .ref q7, .ref q10, .ref q13, .ref q16, .ref q19, .ref q22])) := by rw [hu156]; exact (va_up_ne _ _ (Nat.ne_of_lt l_h0_q155)).trans f_h0
  replace f_q28 : u156 q28 = some (.inr (5, [.int 0, .int 0, .null, .null, .int 0, .int 0])) := by rw [hu156]; exact (va_up_ne _ _ (Nat.ne_of_lt l_q28_q155)).trans f_q28
  replace f_q35 : u156 q35 = some (.inl (cs 0, 12, .inl (fun _ => 0))) := by rw [hu156]; exact (va_up_ne _ _ (Nat.ne_of_lt l_q35_q155)).trans f_q35
  replace f_q32 : u156 q32 = some (.inr (0, [.ref q35, .int (-1)])) := by rw [hu156]; exact (va_up_ne _ _ (Nat.ne_of_lt l_q32_q155)).trans f_q32
  replace f_q42 : u156 q42 = some (.inl (cs 7, 12, .inr (.inr (.inr (.inr (fun _ => none)))))) := by rw [hu156]; exact (va_up_ne _ _ (Nat.ne_of_lt l_q42_q155)).trans f_q42
  replace f_q39 : u156 q39 = some (.inr (3, [.ref q42, .int (-1), .int 0])) := by rw [hu156]; exact (va_up_ne _ _ (Nat.ne_of_lt l_q39_q155)).trans f_q39
  replace f_q49 : u156 q49 = some (.inl (cs 0, 144, .inl (fun _ => 0))) := by rw [hu156]; exact (va_up_ne _ _ (Nat.ne_of_lt l_q49_q155)).trans f_q49
  replace f_q46 : u156 q46 = some (.inr (1, [.ref q49, .int (-1), .int 0])) := by rw [hu156]; exact (va_up_ne _ _ (Nat.ne_of_lt l_q46_q155)).trans f_q46
  replace f_q56 : u156 q56 = some (.inl (cs 8, 16, .inr (.inr (.inr (.inr (fun _ => none)))))) := by rw [hu156]; exact (va_up_ne _ _ (Nat.ne_of_lt l_q56_q155)).trans f_q56
  replace f_q53 : u156 q53 = some (.inr (2, [.ref q56, .int 0])) := by rw [hu156]; exact (va_up_ne _ _ (Nat.ne_of_lt l_q53_q155)).trans f_q53
  replace f_q62 : u156 q62 = some (.inr (5, [.int 0, .int 0, .null, .null, .int 0, .int 0])) := by rw [hu156]; exact (va_up_ne _ _ (Nat.ne_of_lt l_q62_q155)).trans f_q62
  replace f_q69 : u156 q69 = some (.inl (cs 0, 12, .inl (fun _ => 0))) := by rw [hu156]; exact (va_up_ne _ _ (Nat.ne_of_lt l_q69_q155)).trans f_q69
  replace f_q66 : u156 q66 = some (.inr (0, [.ref q69, .int (-1)])) := by rw [hu156]; exact (va_up_ne _ _ (Nat.ne_of_lt l_q66_q155)).trans f_q66
  replace f_q76 : u156 q76 = some (.inl (cs 7, 12, .inr (.inr (.inr (.inr (fun _ => none)))))) := by rw [hu156]; exact (va_up_ne _ _ (Nat.ne_of_lt l_q76_q155)).trans f_q76
  replace f_q73 : u156 q73 = some (.inr (3, [.ref q76, .int (-1), .int 0])) := by rw [hu156]; exact (va_up_ne _ _ (Nat.ne_of_lt l_q73_q155)).trans f_q73
  replace f_q83 : u156 q83 = some (.inl (cs 0, 144, .inl (fun _ => 0))) := by rw [hu156]; exact (va_up_ne _ _ (Nat.ne_of_lt l_q83_q155)).trans f_q83
  replace f_q80 : u156 q80 = some (.inr (1, [.ref q83, .int (-1), .int 0])) := by rw [hu156]; exact (va_up_ne _ _ (Nat.ne_of_lt l_q80_q155)).trans f_q80
  replace f_q90 : u156 q90 = some (.inl (cs 8, 16, .inr (.inr (.inr (.inr (fun _ => none)))))) := by rw [hu156]; exact (va_up_ne _ _ (Nat.ne_of_lt l_q90_q155)).trans f_q90
  replace f_q87 : u156 q87 = some (.inr (2, [.ref q90, .int 0])) := by rw [hu156]; exact (va_up_ne _ _ (Nat.ne_of_lt l_q87_q155)).trans f_q87
  replace f_q96 : u156 q96 = some (.inr (5, [.int 0, .int 0, .null, .null, .int 0, .int 0])) := by rw [hu156]; exact (va_up_ne _ _ (Nat.ne_of_lt l_q96_q155)).trans f_q96
  replace f_q103 : u156 q103 = some (.inl (cs 0, 12, .inl (fun _ => 0))) := by rw [hu156]; exact (va_up_ne _ _ (Nat.ne_of_lt l_q103_q155)).trans f_q103
  replace f_q100 : u156 q100 = some (.inr (0, [.ref q103, .int (-1)])) := by rw [hu156]; exact (va_up_ne _ _ (Nat.ne_of_lt l_q100_q155)).trans f_q100
  replace f_q110 : u156 q110 = some (.inl (cs 7, 12, .inr (.inr (.inr (.inr (fun _ => none)))))) := by rw [hu156]; exact (va_up_ne _ _ (Nat.ne_of_lt l_q110_q155)).trans f_q110
  replace f_q107 : u156 q107 = some (.inr (3, [.ref q110, .int (-1), .int 0])) := by rw [hu156]; exact (va_up_ne _ _ (Nat.ne_of_lt l_q107_q155)).trans f_q107
  replace f_q117 : u156 q117 = some (.inl (cs 0, 144, .inl (fun _ => 0))) := by rw [hu156]; exact (va_up_ne _ _ (Nat.ne_of_lt l_q117_q155)).trans f_q117
  replace f_q114 : u156 q114 = some (.inr (1, [.ref q117, .int (-1), .int 0])) := by rw [hu156]; exact (va_up_ne _ _ (Nat.ne_of_lt l_q114_q155)).trans f_q114
  replace f_q124 : u156 q124 = some (.inl (cs 8, 16, .inr (.inr (.inr (.inr (fun _ => none)))))) := by rw [hu156]; exact (va_up_ne _ _ (Nat.ne_of_lt l_q124_q155)).trans f_q124
  replace f_q121 : u156 q121 = some (.inr (2, [.ref q124, .int 0])) := by rw [hu156]; exact (va_up_ne _ _ (Nat.ne_of_lt l_q121_q155)).trans f_q121
  replace f_q13 : u156 q13 = some (.inl (cs 6, 4, .inr (.inr (.inr (.inr (va_up (va_up (va_up (fun _ => none) 0 (some q53)) 1 (some q87)) 2 (some q121))))))) := by rw [hu156]; exact (va_up_ne _ _ (Nat.ne_of_lt l_q13_q155)).trans f_q13
  replace f_q16 : u156 q16 = some (.inl (cs 0, 4, .inl (upd (upd (upd (fun _ => 0) 0 1) 1 1) 2 1))) := by rw [hu156]; exact (va_up_ne _ _ (Nat.ne_of_lt l_q16_q155)).trans f_q16
  replace f_q130 : u156 q130 = some (.inr (5, [.int 0, .int 0, .null, .null, .int 0, .int 0])) := by rw [hu156]; exact (va_up_ne _ _ (Nat.ne_of_lt l_q130_q155)).trans f_q130
  replace f_q1 : u156 q1 = some (.inl (cs 2, 4, .inr (.inr (.inr (.inr (va_up (va_up (va_up (va_up (fun _ => none) 0 (some q28)) 1 (some q62)) 2 (some q96)) 3 (some q130))))))) := by rw [hu156]; exact (va_up_ne _ _ (Nat.ne_of_lt l_q1_q155)).trans f_q1
  replace f_q137 : u156 q137 = some (.inl (cs 0, 12, .inl (fun _ => 0))) := by rw [hu156]; exact (va_up_ne _ _ (Nat.ne_of_lt l_q137_q155)).trans f_q137
  replace f_q134 : u156 q134 = some (.inr (0, [.ref q137, .int (-1)])) := by rw [hu156]; exact (va_up_ne _ _ (Nat.ne_of_lt l_q134_q155)).trans f_q134
  replace f_q4 : u156 q4 = some (.inl (cs 3, 4, .inr (.inr (.inr (.inr (va_up (va_up (va_up (va_up (fun _ => none) 0 (some q32)) 1 (some q66)) 2 (some q100)) 3 (some q134))))))) := by rw [hu156]; exact (va_up_ne _ _ (Nat.ne_of_lt l_q4_q155)).trans f_q4
  replace f_q144 : u156 q144 = some (.inl (cs 7, 12, .inr (.inr (.inr (.inr (fun _ => none)))))) := by rw [hu156]; exact (va_up_ne _ _ (Nat.ne_of_lt l_q144_q155)).trans f_q144
  replace f_q141 : u156 q141 = some (.inr (3, [.ref q144, .int (-1), .int 0])) := by rw [hu156]; exact (va_up_ne _ _ (Nat.ne_of_lt l_q141_q155)).trans f_q141
  replace f_q7 : u156 q7 = some (.inl (cs 4, 4, .inr (.inr (.inr (.inr (va_up (va_up (va_up (va_up (fun _ => none) 0 (some q39)) 1 (some q73)) 2 (some q107)) 3 (some q141))))))) := by rw [hu156]; exact (va_up_ne _ _ (Nat.ne_of_lt l_q7_q155)).trans f_q7
  replace f_q151 : u156 q151 = some (.inl (cs 0, 144, .inl (fun _ => 0))) := by rw [hu156]; exact (va_up_ne _ _ (Nat.ne_of_lt l_q151_q155)).trans f_q151
  replace f_q148 : u156 q148 = some (.inr (1, [.ref q151, .int (-1), .int 0])) := by rw [hu156]; exact (va_up_ne _ _ (Nat.ne_of_lt l_q148_q155)).trans f_q148
  replace f_q10 : u156 q10 = some (.inl (cs 5, 4, .inr (.inr (.inr (.inr (va_up (va_up (va_up (va_up (fun _ => none) 0 (some q46)) 1 (some q80)) 2 (some q114)) 3 (some q148))))))) := by rw [hu156]; exact (va_up_ne _ _ (Nat.ne_of_lt l_q10_q155)).trans f_q10
  have f_q155 : u156 q155 = some (.inr (2, [.null, .int 0])) := by rw [hu156]; exact va_up_self _ _ _
  refine lv_dup hx hb dX8_init_137 rfl ?_
  have m_q19 := hF.lt f_q19
  have m_q22 := hF.lt f_q22
  have m_h0 := hF.lt f_h0
  have m_q28 := hF.lt f_q28
  have m_q35 := hF.lt f_q35
  have m_q32 := hF.lt f_q32
  have m_q42 := hF.lt f_q42
  have m_q39 := hF.lt f_q39
  have m_q49 := hF.lt f_q49
  have m_q46 := hF.lt f_q46
  have m_q56 := hF.lt f_q56
  have m_q53 := hF.lt f_q53
  have m_q62 := hF.lt f_q62
  have m_q69 := hF.lt f_q69
  have m_q66 := hF.lt f_q66
  have m_q76 := hF.lt f_q76
  have m_q73 := hF.lt f_q73
  have m_q83 := hF.lt f_q83
  have m_q80 := hF.lt f_q80
  have m_q90 := hF.lt f_q90
  have m_q87 := hF.lt f_q87
  have m_q96 := hF.lt f_q96
  have m_q103 := hF.lt f_q103
  have m_q100 := hF.lt f_q100
  have m_q110 := hF.lt f_q110
  have m_q107 := hF.lt f_q107
  have m_q117 := hF.lt f_q117
  have m_q114 := hF.lt f_q114
  have m_q124 := hF.lt f_q124
  have m_q121 := hF.lt f_q121
  have m_q13 := hF.lt f_q13
  have m_q16 := hF.lt f_q16
  have m_q130 := hF.lt f_q130
  have m_q1 := hF.lt f_q1
  have m_q137 := hF.lt f_q137
  have m_q134 := hF.lt f_q134
  have m_q4 := hF.lt f_q4
  have m_q144 := hF.lt f_q144
  have m_q141 := hF.lt f_q141
  have m_q7 := hF.lt f_q7
  have m_q151 := hF.lt f_q151
  have m_q148 := hF.lt f_q148
  have m_q10 := hF.lt f_q10
  have m_q155 := hF.lt f_q155
  refine fw_callIN (As := []) (rest := [.ref q155, .int 3, .ref q13]) X bs_all nw_all mf_X2_init (c_X2_init l D cs _ _ q155 f_q155) nm_162 wm_163 rfl hF hS rfl ((⟨⟨Nat.le_of_ble_eq_true rfl, Nat.le_of_ble_eq_true rfl⟩, Nat.le_of_ble_eq_true rfl, Nat.le_of_ble_eq_true rfl⟩)) rfl hl.1 rfl (Nat.le_of_ble_eq_true rfl) dX8_init_138 (fun v u157 H locs hp hF hS hz1 hk1 hd1 => ?_)
  obtain ⟨hv1, q158, nq158, hw1⟩ := hp
  subst hv1
  have leq158 := (hd1 q158 (by rw [hw1, va_up_ne _ _ (Ne.symm (gx_ne f_q155 nq158)), va_up_self]; exact fun z => by cases z)).resolve_left (fun z => z nq158)
  have l_q19_q158 : q19 < q158 := Nat.lt_of_lt_of_le m_q19 leq158
  have l_q22_q158 : q22 < q158 := Nat.lt_of_lt_of_le m_q22 leq158
  have l_h0_q158 : h0 < q158 := Nat.lt_of_lt_of_le m_h0 leq158
  have l_q28_q158 : q28 < q158 := Nat.lt_of_lt_of_le m_q28 leq158
  have l_q35_q158 : q35 < q158 := Nat.lt_of_lt_of_le m_q35 leq158
  have l_q32_q158 : q32 < q158 := Nat.lt_of_lt_of_le m_q32 leq158
  have l_q42_q158 : q42 < q158 := Nat.lt_of_lt_of_le m_q42 leq158
  have l_q39_q158 : q39 < q158 := Nat.lt_of_lt_of_le m_q39 leq158
  have l_q49_q158 : q49 < q158 := Nat.lt_of_lt_of_le m_q49 leq158
  have l_q46_q158 : q46 < q158 := Nat.lt_of_lt_of_le m_q46 leq158
  have l_q56_q158 : q56 < q158 := Nat.lt_of_lt_of_le m_q56 leq158
  have l_q53_q158 : q53 < q158 := Nat.lt_of_lt_of_le m_q53 leq158
  have l_q62_q158 : q62 < q158 := Nat.lt_of_lt_of_le m_q62 leq158
  have l_q69_q158 : q69 < q158 := Nat.lt_of_lt_of_le m_q69 leq158
  have l_q66_q158 : q66 < q158 := Nat.lt_of_lt_of_le m_q66 leq158
  have l_q76_q158 : q76 < q158 := Nat.lt_of_lt_of_le m_q76 leq158
  have l_q73_q158 : q73 < q158 := Nat.lt_of_lt_of_le m_q73 leq158
  have l_q83_q158 : q83 < q158 := Nat.lt_of_lt_of_le m_q83 leq158
  have l_q80_q158 : q80 < q158 := Nat.lt_of_lt_of_le m_q80 leq158
  have l_q90_q158 : q90 < q158 := Nat.lt_of_lt_of_le m_q90 leq158
  have l_q87_q158 : q87 < q158 := Nat.lt_of_lt_of_le m_q87 leq158
  have l_q96_q158 : q96 < q158 := Nat.lt_of_lt_of_le m_q96 leq158
  have l_q103_q158 : q103 < q158 := Nat.lt_of_lt_of_le m_q103 leq158
  have l_q100_q158 : q100 < q158 := Nat.lt_of_lt_of_le m_q100 leq158
  have l_q110_q158 : q110 < q158 := Nat.lt_of_lt_of_le m_q110 leq158
  have l_q107_q158 : q107 < q158 := Nat.lt_of_lt_of_le m_q107 leq158
  have l_q117_q158 : q117 < q158 := Nat.lt_of_lt_of_le m_q117 leq158
  have l_q114_q158 : q114 < q158 := Nat.lt_of_lt_of_le m_q114 leq158
  have l_q124_q158 : q124 < q158 := Nat.lt_of_lt_of_le m_q124 leq158
  have l_q121_q158 : q121 < q158 := Nat.lt_of_lt_of_le m_q121 leq158
  have l_q13_q158 : q13 < q158 := Nat.lt_of_lt_of_le m_q13 leq158
  have l_q16_q158 : q16 < q158 := Nat.lt_of_lt_of_le m_q16 leq158
  have l_q130_q158 : q130 < q158 := Nat.lt_of_lt_of_le m_q130 leq158
  have l_q1_q158 : q1 < q158 := Nat.lt_of_lt_of_le m_q1 leq158
  have l_q137_q158 : q137 < q158 := Nat.lt_of_lt_of_le m_q137 leq158
  have l_q134_q158 : q134 < q158 := Nat.lt_of_lt_of_le m_q134 leq158
  have l_q4_q158 : q4 < q158 := Nat.lt_of_lt_of_le m_q4 leq158
  have l_q144_q158 : q144 < q158 := Nat.lt_of_lt_of_le m_q144 leq158
  have l_q141_q158 : q141 < q158 := Nat.lt_of_lt_of_le m_q141 leq158
  have l_q7_q158 : q7 < q158 := Nat.lt_of_lt_of_le m_q7 leq158
  have l_q151_q158 : q151 < q158 := Nat.lt_of_lt_of_le m_q151 leq158
  have l_q148_q158 : q148 < q158 := Nat.lt_of_lt_of_le m_q148 leq158
  have l_q10_q158 : q10 < q158 := Nat.lt_of_lt_of_le m_q10 leq158
  have l_q155_q158 : q155 < q158 := Nat.lt_of_lt_of_le m_q155 leq158
  clear m_q19 m_q22 m_h0 m_q28 m_q35 m_q32 m_q42 m_q39 m_q49 m_q46 m_q56 m_q53 m_q62 m_q69 m_q66 m_q76 m_q73 m_q83 m_q80 m_q90 m_q87 m_q96 m_q103 m_q100 m_q110 m_q107 m_q117 m_q114 m_q124 m_q121 m_q13 m_q16 m_q130 m_q1 m_q137 m_q134 m_q4 m_q144 m_q141 m_q7 m_q151 m_q148 m_q10 m_q155
  rw [hw1] at hF
  clear hw1 hd1 hk1
  obtain ⟨u159, hu159⟩ : ∃ y : fW, y = va_up u156 q158 (some (.inl (cs 8, 16, .inr (.inr (.inr (.inr (fun _ => none))))))) := ⟨_, rfl⟩
  rw [← hu159] at hF
  replace f_q19 : u159 q19 = some (.inl (cs 0, 8, .inl (fun _ => 0))) := by rw [hu159]; exact (va_up_ne _ _ (Nat.ne_of_lt l_q19_q158)).trans f_q19
  replace f_q22 : u159 q22 = some (.inr (4, [.int 0, .int 0, .int 0, .int (-1), .int 0, .long 0])) := by rw [hu159]; exact (va_up_ne _ _ (Nat.ne_of_lt l_q22_q158)).trans f_q22
  replace f_h0 : u159 h0 = some (.inr (8, [.ref q1, .ref q4, .ref q7, .ref q10, .ref q13, .ref q16, .ref q19, .ref q22])) := by rw [hu159]; exact (va_up_ne _ _ (Nat.ne_of_lt l_h0_q158)).trans f_h0
  replace f_q28 : u159 q28 = some (.inr (5, [.int 0, .int 0, .null, .null, .int 0, .int 0])) := by rw [hu159]; exact (va_up_ne _ _ (Nat.ne_of_lt l_q28_q158)).trans f_q28
  replace f_q35 : u159 q35 = some (.inl (cs 0, 12, .inl (fun _ => 0))) := by rw [hu159]; exact (va_up_ne _ _ (Nat.ne_of_lt l_q35_q158)).trans f_q35
  replace f_q32 : u159 q32 = some (.inr (0, [.ref q35, .int (-1)])) := by rw [hu159]; exact (va_up_ne _ _ (Nat.ne_of_lt l_q32_q158)).trans f_q32
  replace f_q42 : u159 q42 = some (.inl (cs 7, 12, .inr (.inr (.inr (.inr (fun _ => none)))))) := by rw [hu159]; exact (va_up_ne _ _ (Nat.ne_of_lt l_q42_q158)).trans f_q42
  replace f_q39 : u159 q39 = some (.inr (3, [.ref q42, .int (-1), .int 0])) := by rw [hu159]; exact (va_up_ne _ _ (Nat.ne_of_lt l_q39_q158)).trans f_q39
  replace f_q49 : u159 q49 = some (.inl (cs 0, 144, .inl (fun _ => 0))) := by rw [hu159]; exact (va_up_ne _ _ (Nat.ne_of_lt l_q49_q158)).trans f_q49
  replace f_q46 : u159 q46 = some (.inr (1, [.ref q49, .int (-1), .int 0])) := by rw [hu159]; exact (va_up_ne _ _ (Nat.ne_of_lt l_q46_q158)).trans f_q46
  replace f_q56 : u159 q56 = some (.inl (cs 8, 16, .inr (.inr (.inr (.inr (fun _ => none)))))) := by rw [hu159]; exact (va_up_ne _ _ (Nat.ne_of_lt l_q56_q158)).trans f_q56
  replace f_q53 : u159 q53 = some (.inr (2, [.ref q56, .int 0])) := by rw [hu159]; exact (va_up_ne _ _ (Nat.ne_of_lt l_q53_q158)).trans f_q53
  replace f_q62 : u159 q62 = some (.inr (5, [.int 0, .int 0, .null, .null, .int 0, .int 0])) := by rw [hu159]; exact (va_up_ne _ _ (Nat.ne_of_lt l_q62_q158)).trans f_q62
  replace f_q69 : u159 q69 = some (.inl (cs 0, 12, .inl (fun _ => 0))) := by rw [hu159]; exact (va_up_ne _ _ (Nat.ne_of_lt l_q69_q158)).trans f_q69
  replace f_q66 : u159 q66 = some (.inr (0, [.ref q69, .int (-1)])) := by rw [hu159]; exact (va_up_ne _ _ (Nat.ne_of_lt l_q66_q158)).trans f_q66
  replace f_q76 : u159 q76 = some (.inl (cs 7, 12, .inr (.inr (.inr (.inr (fun _ => none)))))) := by rw [hu159]; exact (va_up_ne _ _ (Nat.ne_of_lt l_q76_q158)).trans f_q76
  replace f_q73 : u159 q73 = some (.inr (3, [.ref q76, .int (-1), .int 0])) := by rw [hu159]; exact (va_up_ne _ _ (Nat.ne_of_lt l_q73_q158)).trans f_q73
  replace f_q83 : u159 q83 = some (.inl (cs 0, 144, .inl (fun _ => 0))) := by rw [hu159]; exact (va_up_ne _ _ (Nat.ne_of_lt l_q83_q158)).trans f_q83
  replace f_q80 : u159 q80 = some (.inr (1, [.ref q83, .int (-1), .int 0])) := by rw [hu159]; exact (va_up_ne _ _ (Nat.ne_of_lt l_q80_q158)).trans f_q80
  replace f_q90 : u159 q90 = some (.inl (cs 8, 16, .inr (.inr (.inr (.inr (fun _ => none)))))) := by rw [hu159]; exact (va_up_ne _ _ (Nat.ne_of_lt l_q90_q158)).trans f_q90
  replace f_q87 : u159 q87 = some (.inr (2, [.ref q90, .int 0])) := by rw [hu159]; exact (va_up_ne _ _ (Nat.ne_of_lt l_q87_q158)).trans f_q87
  replace f_q96 : u159 q96 = some (.inr (5, [.int 0, .int 0, .null, .null, .int 0, .int 0])) := by rw [hu159]; exact (va_up_ne _ _ (Nat.ne_of_lt l_q96_q158)).trans f_q96
  replace f_q103 : u159 q103 = some (.inl (cs 0, 12, .inl (fun _ => 0))) := by rw [hu159]; exact (va_up_ne _ _ (Nat.ne_of_lt l_q103_q158)).trans f_q103
  replace f_q100 : u159 q100 = some (.inr (0, [.ref q103, .int (-1)])) := by rw [hu159]; exact (va_up_ne _ _ (Nat.ne_of_lt l_q100_q158)).trans f_q100
  replace f_q110 : u159 q110 = some (.inl (cs 7, 12, .inr (.inr (.inr (.inr (fun _ => none)))))) := by rw [hu159]; exact (va_up_ne _ _ (Nat.ne_of_lt l_q110_q158)).trans f_q110
  replace f_q107 : u159 q107 = some (.inr (3, [.ref q110, .int (-1), .int 0])) := by rw [hu159]; exact (va_up_ne _ _ (Nat.ne_of_lt l_q107_q158)).trans f_q107
  replace f_q117 : u159 q117 = some (.inl (cs 0, 144, .inl (fun _ => 0))) := by rw [hu159]; exact (va_up_ne _ _ (Nat.ne_of_lt l_q117_q158)).trans f_q117
  replace f_q114 : u159 q114 = some (.inr (1, [.ref q117, .int (-1), .int 0])) := by rw [hu159]; exact (va_up_ne _ _ (Nat.ne_of_lt l_q114_q158)).trans f_q114
  replace f_q124 : u159 q124 = some (.inl (cs 8, 16, .inr (.inr (.inr (.inr (fun _ => none)))))) := by rw [hu159]; exact (va_up_ne _ _ (Nat.ne_of_lt l_q124_q158)).trans f_q124
  replace f_q121 : u159 q121 = some (.inr (2, [.ref q124, .int 0])) := by rw [hu159]; exact (va_up_ne _ _ (Nat.ne_of_lt l_q121_q158)).trans f_q121
  replace f_q13 : u159 q13 = some (.inl (cs 6, 4, .inr (.inr (.inr (.inr (va_up (va_up (va_up (fun _ => none) 0 (some q53)) 1 (some q87)) 2 (some q121))))))) := by rw [hu159]; exact (va_up_ne _ _ (Nat.ne_of_lt l_q13_q158)).trans f_q13
  replace f_q16 : u159 q16 = some (.inl (cs 0, 4, .inl (upd (upd (upd (fun _ => 0) 0 1) 1 1) 2 1))) := by rw [hu159]; exact (va_up_ne _ _ (Nat.ne_of_lt l_q16_q158)).trans f_q16
  replace f_q130 : u159 q130 = some (.inr (5, [.int 0, .int 0, .null, .null, .int 0, .int 0])) := by rw [hu159]; exact (va_up_ne _ _ (Nat.ne_of_lt l_q130_q158)).trans f_q130
  replace f_q1 : u159 q1 = some (.inl (cs 2, 4, .inr (.inr (.inr (.inr (va_up (va_up (va_up (va_up (fun _ => none) 0 (some q28)) 1 (some q62)) 2 (some q96)) 3 (some q130))))))) := by rw [hu159]; exact (va_up_ne _ _ (Nat.ne_of_lt l_q1_q158)).trans f_q1
  replace f_q137 : u159 q137 = some (.inl (cs 0, 12, .inl (fun _ => 0))) := by rw [hu159]; exact (va_up_ne _ _ (Nat.ne_of_lt l_q137_q158)).trans f_q137
  replace f_q134 : u159 q134 = some (.inr (0, [.ref q137, .int (-1)])) := by rw [hu159]; exact (va_up_ne _ _ (Nat.ne_of_lt l_q134_q158)).trans f_q134
  replace f_q4 : u159 q4 = some (.inl (cs 3, 4, .inr (.inr (.inr (.inr (va_up (va_up (va_up (va_up (fun _ => none) 0 (some q32)) 1 (some q66)) 2 (some q100)) 3 (some q134))))))) := by rw [hu159]; exact (va_up_ne _ _ (Nat.ne_of_lt l_q4_q158)).trans f_q4
  replace f_q144 : u159 q144 = some (.inl (cs 7, 12, .inr (.inr (.inr (.inr (fun _ => none)))))) := by rw [hu159]; exact (va_up_ne _ _ (Nat.ne_of_lt l_q144_q158)).trans f_q144
  replace f_q141 : u159 q141 = some (.inr (3, [.ref q144, .int (-1), .int 0])) := by rw [hu159]; exact (va_up_ne _ _ (Nat.ne_of_lt l_q141_q158)).trans f_q141
  replace f_q7 : u159 q7 = some (.inl (cs 4, 4, .inr (.inr (.inr (.inr (va_up (va_up (va_up (va_up (fun _ => none) 0 (some q39)) 1 (some q73)) 2 (some q107)) 3 (some q141))))))) := by rw [hu159]; exact (va_up_ne _ _ (Nat.ne_of_lt l_q7_q158)).trans f_q7
  replace f_q151 : u159 q151 = some (.inl (cs 0, 144, .inl (fun _ => 0))) := by rw [hu159]; exact (va_up_ne _ _ (Nat.ne_of_lt l_q151_q158)).trans f_q151
  replace f_q148 : u159 q148 = some (.inr (1, [.ref q151, .int (-1), .int 0])) := by rw [hu159]; exact (va_up_ne _ _ (Nat.ne_of_lt l_q148_q158)).trans f_q148
  replace f_q10 : u159 q10 = some (.inl (cs 5, 4, .inr (.inr (.inr (.inr (va_up (va_up (va_up (va_up (fun _ => none) 0 (some q46)) 1 (some q80)) 2 (some q114)) 3 (some q148))))))) := by rw [hu159]; exact (va_up_ne _ _ (Nat.ne_of_lt l_q10_q158)).trans f_q10
  replace f_q155 : u159 q155 = some (.inr (2, [.null, .int 0])) := by rw [hu159]; exact (va_up_ne _ _ (Nat.ne_of_lt l_q155_q158)).trans f_q155
  have f_q158 : u159 q158 = some (.inl (cs 8, 16, .inr (.inr (.inr (.inr (fun _ => none)))))) := by rw [hu159]; exact va_up_self _ _ _
  obtain ⟨u160, hu160⟩ : ∃ y : fW, y = va_up u159 q155 (some (.inr (2, [.ref q158, .int 0]))) := ⟨_, rfl⟩
  rw [← hu160] at hF
  replace f_q19 : u160 q19 = some (.inl (cs 0, 8, .inl (fun _ => 0))) := by rw [hu160]; exact (va_up_ne _ _ (Nat.ne_of_lt l_q19_q155)).trans f_q19
  replace f_q22 : u160 q22 = some (.inr (4, [.int 0, .int 0, .int 0, .int (-1), .int 0, .long 0])) := by rw [hu160]; exact (va_up_ne _ _ (Nat.ne_of_lt l_q22_q155)).trans f_q22
  replace f_h0 : u160 h0 = some (.inr (8, [.ref q1, .ref q4, .ref q7, .ref q10, .ref q13, .ref q16, .ref q19, .ref q22])) := by rw [hu160]; exact (va_up_ne _ _ (Nat.ne_of_lt l_h0_q155)).trans f_h0
  replace f_q28 : u160 q28 = some (.inr (5, [.int 0, .int 0, .null, .null, .int 0, .int 0])) := by rw [hu160]; exact (va_up_ne _ _ (Nat.ne_of_lt l_q28_q155)).trans f_q28
  replace f_q35 : u160 q35 = some (.inl (cs 0, 12, .inl (fun _ => 0))) := by rw [hu160]; exact (va_up_ne _ _ (Nat.ne_of_lt l_q35_q155)).trans f_q35
  replace f_q32 : u160 q32 = some (.inr (0, [.ref q35, .int (-1)])) := by rw [hu160]; exact (va_up_ne _ _ (Nat.ne_of_lt l_q32_q155)).trans f_q32
  replace f_q42 : u160 q42 = some (.inl (cs 7, 12, .inr (.inr (.inr (.inr (fun _ => none)))))) := by rw [hu160]; exact (va_up_ne _ _ (Nat.ne_of_lt l_q42_q155)).trans f_q42
  replace f_q39 : u160 q39 = some (.inr (3, [.ref q42, .int (-1), .int 0])) := by rw [hu160]; exact (va_up_ne _ _ (Nat.ne_of_lt l_q39_q155)).trans f_q39
  replace f_q49 : u160 q49 = some (.inl (cs 0, 144, .inl (fun _ => 0))) := by rw [hu160]; exact (va_up_ne _ _ (Nat.ne_of_lt l_q49_q155)).trans f_q49
  replace f_q46 : u160 q46 = some (.inr (1, [.ref q49, .int (-1), .int 0])) := by rw [hu160]; exact (va_up_ne _ _ (Nat.ne_of_lt l_q46_q155)).trans f_q46
  replace f_q56 : u160 q56 = some (.inl (cs 8, 16, .inr (.inr (.inr (.inr (fun _ => none)))))) := by rw [hu160]; exact (va_up_ne _ _ (Nat.ne_of_lt l_q56_q155)).trans f_q56
  replace f_q53 : u160 q53 = some (.inr (2, [.ref q56, .int 0])) := by rw [hu160]; exact (va_up_ne _ _ (Nat.ne_of_lt l_q53_q155)).trans f_q53
  replace f_q62 : u160 q62 = some (.inr (5, [.int 0, .int 0, .null, .null, .int 0, .int 0])) := by rw [hu160]; exact (va_up_ne _ _ (Nat.ne_of_lt l_q62_q155)).trans f_q62
  replace f_q69 : u160 q69 = some (.inl (cs 0, 12, .inl (fun _ => 0))) := by rw [hu160]; exact (va_up_ne _ _ (Nat.ne_of_lt l_q69_q155)).trans f_q69
  replace f_q66 : u160 q66 = some (.inr (0, [.ref q69, .int (-1)])) := by rw [hu160]; exact (va_up_ne _ _ (Nat.ne_of_lt l_q66_q155)).trans f_q66
  replace f_q76 : u160 q76 = some (.inl (cs 7, 12, .inr (.inr (.inr (.inr (fun _ => none)))))) := by rw [hu160]; exact (va_up_ne _ _ (Nat.ne_of_lt l_q76_q155)).trans f_q76
  replace f_q73 : u160 q73 = some (.inr (3, [.ref q76, .int (-1), .int 0])) := by rw [hu160]; exact (va_up_ne _ _ (Nat.ne_of_lt l_q73_q155)).trans f_q73
  replace f_q83 : u160 q83 = some (.inl (cs 0, 144, .inl (fun _ => 0))) := by rw [hu160]; exact (va_up_ne _ _ (Nat.ne_of_lt l_q83_q155)).trans f_q83
  replace f_q80 : u160 q80 = some (.inr (1, [.ref q83, .int (-1), .int 0])) := by rw [hu160]; exact (va_up_ne _ _ (Nat.ne_of_lt l_q80_q155)).trans f_q80
  replace f_q90 : u160 q90 = some (.inl (cs 8, 16, .inr (.inr (.inr (.inr (fun _ => none)))))) := by rw [hu160]; exact (va_up_ne _ _ (Nat.ne_of_lt l_q90_q155)).trans f_q90
  replace f_q87 : u160 q87 = some (.inr (2, [.ref q90, .int 0])) := by rw [hu160]; exact (va_up_ne _ _ (Nat.ne_of_lt l_q87_q155)).trans f_q87
  replace f_q96 : u160 q96 = some (.inr (5, [.int 0, .int 0, .null, .null, .int 0, .int 0])) := by rw [hu160]; exact (va_up_ne _ _ (Nat.ne_of_lt l_q96_q155)).trans f_q96
  replace f_q103 : u160 q103 = some (.inl (cs 0, 12, .inl (fun _ => 0))) := by rw [hu160]; exact (va_up_ne _ _ (Nat.ne_of_lt l_q103_q155)).trans f_q103
  replace f_q100 : u160 q100 = some (.inr (0, [.ref q103, .int (-1)])) := by rw [hu160]; exact (va_up_ne _ _ (Nat.ne_of_lt l_q100_q155)).trans f_q100
  replace f_q110 : u160 q110 = some (.inl (cs 7, 12, .inr (.inr (.inr (.inr (fun _ => none)))))) := by rw [hu160]; exact (va_up_ne _ _ (Nat.ne_of_lt l_q110_q155)).trans f_q110
  replace f_q107 : u160 q107 = some (.inr (3, [.ref q110, .int (-1), .int 0])) := by rw [hu160]; exact (va_up_ne _ _ (Nat.ne_of_lt l_q107_q155)).trans f_q107
  replace f_q117 : u160 q117 = some (.inl (cs 0, 144, .inl (fun _ => 0))) := by rw [hu160]; exact (va_up_ne _ _ (Nat.ne_of_lt l_q117_q155)).trans f_q117
  replace f_q114 : u160 q114 = some (.inr (1, [.ref q117, .int (-1), .int 0])) := by rw [hu160]; exact (va_up_ne _ _ (Nat.ne_of_lt l_q114_q155)).trans f_q114
  replace f_q124 : u160 q124 = some (.inl (cs 8, 16, .inr (.inr (.inr (.inr (fun _ => none)))))) := by rw [hu160]; exact (va_up_ne _ _ (Nat.ne_of_lt l_q124_q155)).trans f_q124
  replace f_q121 : u160 q121 = some (.inr (2, [.ref q124, .int 0])) := by rw [hu160]; exact (va_up_ne _ _ (Nat.ne_of_lt l_q121_q155)).trans f_q121
  replace f_q13 : u160 q13 = some (.inl (cs 6, 4, .inr (.inr (.inr (.inr (va_up (va_up (va_up (fun _ => none) 0 (some q53)) 1 (some q87)) 2 (some q121))))))) := by rw [hu160]; exact (va_up_ne _ _ (Nat.ne_of_lt l_q13_q155)).trans f_q13
  replace f_q16 : u160 q16 = some (.inl (cs 0, 4, .inl (upd (upd (upd (fun _ => 0) 0 1) 1 1) 2 1))) := by rw [hu160]; exact (va_up_ne _ _ (Nat.ne_of_lt l_q16_q155)).trans f_q16
  replace f_q130 : u160 q130 = some (.inr (5, [.int 0, .int 0, .null, .null, .int 0, .int 0])) := by rw [hu160]; exact (va_up_ne _ _ (Nat.ne_of_lt l_q130_q155)).trans f_q130
  replace f_q1 : u160 q1 = some (.inl (cs 2, 4, .inr (.inr (.inr (.inr (va_up (va_up (va_up (va_up (fun _ => none) 0 (some q28)) 1 (some q62)) 2 (some q96)) 3 (some q130))))))) := by rw [hu160]; exact (va_up_ne _ _ (Nat.ne_of_lt l_q1_q155)).trans f_q1
  replace f_q137 : u160 q137 = some (.inl (cs 0, 12, .inl (fun _ => 0))) := by rw [hu160]; exact (va_up_ne _ _ (Nat.ne_of_lt l_q137_q155)).trans f_q137
  replace f_q134 : u160 q134 = some (.inr (0, [.ref q137, .int (-1)])) := by rw [hu160]; exact (va_up_ne _ _ (Nat.ne_of_lt l_q134_q155)).trans f_q134
  replace f_q4 : u160 q4 = some (.inl (cs 3, 4, .inr (.inr (.inr (.inr (va_up (va_up (va_up (va_up (fun _ => none) 0 (some q32)) 1 (some q66)) 2 (some q100)) 3 (some q134))))))) := by rw [hu160]; exact (va_up_ne _ _ (Nat.ne_of_lt l_q4_q155)).trans f_q4
  replace f_q144 : u160 q144 = some (.inl (cs 7, 12, .inr (.inr (.inr (.inr (fun _ => none)))))) := by rw [hu160]; exact (va_up_ne _ _ (Nat.ne_of_lt l_q144_q155)).trans f_q144
  replace f_q141 : u160 q141 = some (.inr (3, [.ref q144, .int (-1), .int 0])) := by rw [hu160]; exact (va_up_ne _ _ (Nat.ne_of_lt l_q141_q155)).trans f_q141
  replace f_q7 : u160 q7 = some (.inl (cs 4, 4, .inr (.inr (.inr (.inr (va_up (va_up (va_up (va_up (fun _ => none) 0 (some q39)) 1 (some q73)) 2 (some q107)) 3 (some q141))))))) := by rw [hu160]; exact (va_up_ne _ _ (Nat.ne_of_lt l_q7_q155)).trans f_q7
  replace f_q151 : u160 q151 = some (.inl (cs 0, 144, .inl (fun _ => 0))) := by rw [hu160]; exact (va_up_ne _ _ (Nat.ne_of_lt l_q151_q155)).trans f_q151
  replace f_q148 : u160 q148 = some (.inr (1, [.ref q151, .int (-1), .int 0])) := by rw [hu160]; exact (va_up_ne _ _ (Nat.ne_of_lt l_q148_q155)).trans f_q148
  replace f_q10 : u160 q10 = some (.inl (cs 5, 4, .inr (.inr (.inr (.inr (va_up (va_up (va_up (va_up (fun _ => none) 0 (some q46)) 1 (some q80)) 2 (some q114)) 3 (some q148))))))) := by rw [hu160]; exact (va_up_ne _ _ (Nat.ne_of_lt l_q10_q155)).trans f_q10
  replace f_q158 : u160 q158 = some (.inl (cs 8, 16, .inr (.inr (.inr (.inr (fun _ => none)))))) := by rw [hu160]; exact (va_up_ne _ _ (Nat.ne_of_gt l_q155_q158)).trans f_q158
  replace f_q155 : u160 q155 = some (.inr (2, [.ref q158, .int 0])) := by rw [hu160]; exact va_up_self _ _ _
  refine W.eq (g2 := F0 m 141 ls [.ref q155, .int 3, .ref q13]) rfl ?_
  refine fw_astq X hF hS f_q13 6 rfl f_q155 rfl (vp_in_iff.mpr (by decide)) dX8_init_141 (fun H locs hF hS => ?_)
  have hF : fw_P D cls10 A (va_up u160 q13 (some (.inl (cs 6, 4, .inr (.inr (.inr (.inr (va_up (va_up (va_up (va_up (fun _ => none) 0 (some q53)) 1 (some q87)) 2 (some q121)) 3 (some q155))))))))) H := hF
  obtain ⟨u161, hu161⟩ : ∃ y : fW, y = va_up u160 q13 (some (.inl (cs 6, 4, .inr (.inr (.inr (.inr (va_up (va_up (va_up (va_up (fun _ => none) 0 (some q53)) 1 (some q87)) 2 (some q121)) 3 (some q155)))))))) := ⟨_, rfl⟩
  rw [← hu161] at hF
  replace f_q19 : u161 q19 = some (.inl (cs 0, 8, .inl (fun _ => 0))) := by rw [hu161]; exact (va_up_ne _ _ (Nat.ne_of_gt l_q13_q19)).trans f_q19
  replace f_q22 : u161 q22 = some (.inr (4, [.int 0, .int 0, .int 0, .int (-1), .int 0, .long 0])) := by rw [hu161]; exact (va_up_ne _ _ (Nat.ne_of_gt l_q13_q22)).trans f_q22
  replace f_h0 : u161 h0 = some (.inr (8, [.ref q1, .ref q4, .ref q7, .ref q10, .ref q13, .ref q16, .ref q19, .ref q22])) := by rw [hu161]; exact (va_up_ne _ _ (Nat.ne_of_lt l_h0_q13)).trans f_h0
  replace f_q28 : u161 q28 = some (.inr (5, [.int 0, .int 0, .null, .null, .int 0, .int 0])) := by rw [hu161]; exact (va_up_ne _ _ (Nat.ne_of_gt l_q13_q28)).trans f_q28
  replace f_q35 : u161 q35 = some (.inl (cs 0, 12, .inl (fun _ => 0))) := by rw [hu161]; exact (va_up_ne _ _ (Nat.ne_of_gt l_q13_q35)).trans f_q35
  replace f_q32 : u161 q32 = some (.inr (0, [.ref q35, .int (-1)])) := by rw [hu161]; exact (va_up_ne _ _ (Nat.ne_of_gt l_q13_q32)).trans f_q32
  replace f_q42 : u161 q42 = some (.inl (cs 7, 12, .inr (.inr (.inr (.inr (fun _ => none)))))) := by rw [hu161]; exact (va_up_ne _ _ (Nat.ne_of_gt l_q13_q42)).trans f_q42
  replace f_q39 : u161 q39 = some (.inr (3, [.ref q42, .int (-1), .int 0])) := by rw [hu161]; exact (va_up_ne _ _ (Nat.ne_of_gt l_q13_q39)).trans f_q39
  replace f_q49 : u161 q49 = some (.inl (cs 0, 144, .inl (fun _ => 0))) := by rw [hu161]; exact (va_up_ne _ _ (Nat.ne_of_gt l_q13_q49)).trans f_q49
  replace f_q46 : u161 q46 = some (.inr (1, [.ref q49, .int (-1), .int 0])) := by rw [hu161]; exact (va_up_ne _ _ (Nat.ne_of_gt l_q13_q46)).trans f_q46
  replace f_q56 : u161 q56 = some (.inl (cs 8, 16, .inr (.inr (.inr (.inr (fun _ => none)))))) := by rw [hu161]; exact (va_up_ne _ _ (Nat.ne_of_gt l_q13_q56)).trans f_q56
  replace f_q53 : u161 q53 = some (.inr (2, [.ref q56, .int 0])) := by rw [hu161]; exact (va_up_ne _ _ (Nat.ne_of_gt l_q13_q53)).trans f_q53
  replace f_q62 : u161 q62 = some (.inr (5, [.int 0, .int 0, .null, .null, .int 0, .int 0])) := by rw [hu161]; exact (va_up_ne _ _ (Nat.ne_of_gt l_q13_q62)).trans f_q62
  replace f_q69 : u161 q69 = some (.inl (cs 0, 12, .inl (fun _ => 0))) := by rw [hu161]; exact (va_up_ne _ _ (Nat.ne_of_gt l_q13_q69)).trans f_q69
  replace f_q66 : u161 q66 = some (.inr (0, [.ref q69, .int (-1)])) := by rw [hu161]; exact (va_up_ne _ _ (Nat.ne_of_gt l_q13_q66)).trans f_q66
  replace f_q76 : u161 q76 = some (.inl (cs 7, 12, .inr (.inr (.inr (.inr (fun _ => none)))))) := by rw [hu161]; exact (va_up_ne _ _ (Nat.ne_of_gt l_q13_q76)).trans f_q76
  replace f_q73 : u161 q73 = some (.inr (3, [.ref q76, .int (-1), .int 0])) := by rw [hu161]; exact (va_up_ne _ _ (Nat.ne_of_gt l_q13_q73)).trans f_q73
  replace f_q83 : u161 q83 = some (.inl (cs 0, 144, .inl (fun _ => 0))) := by rw [hu161]; exact (va_up_ne _ _ (Nat.ne_of_gt l_q13_q83)).trans f_q83
  replace f_q80 : u161 q80 = some (.inr (1, [.ref q83, .int (-1), .int 0])) := by rw [hu161]; exact (va_up_ne _ _ (Nat.ne_of_gt l_q13_q80)).trans f_q80
  replace f_q90 : u161 q90 = some (.inl (cs 8, 16, .inr (.inr (.inr (.inr (fun _ => none)))))) := by rw [hu161]; exact (va_up_ne _ _ (Nat.ne_of_gt l_q13_q90)).trans f_q90
  replace f_q87 : u161 q87 = some (.inr (2, [.ref q90, .int 0])) := by rw [hu161]; exact (va_up_ne _ _ (Nat.ne_of_gt l_q13_q87)).trans f_q87
  replace f_q96 : u161 q96 = some (.inr (5, [.int 0, .int 0, .null, .null, .int 0, .int 0])) := by rw [hu161]; exact (va_up_ne _ _ (Nat.ne_of_gt l_q13_q96)).trans f_q96
  replace f_q103 : u161 q103 = some (.inl (cs 0, 12, .inl (fun _ => 0))) := by rw [hu161]; exact (va_up_ne _ _ (Nat.ne_of_gt l_q13_q103)).trans f_q103
  replace f_q100 : u161 q100 = some (.inr (0, [.ref q103, .int (-1)])) := by rw [hu161]; exact (va_up_ne _ _ (Nat.ne_of_gt l_q13_q100)).trans f_q100
  replace f_q110 : u161 q110 = some (.inl (cs 7, 12, .inr (.inr (.inr (.inr (fun _ => none)))))) := by rw [hu161]; exact (va_up_ne _ _ (Nat.ne_of_gt l_q13_q110)).trans f_q110
  replace f_q107 : u161 q107 = some (.inr (3, [.ref q110, .int (-1), .int 0])) := by rw [hu161]; exact (va_up_ne _ _ (Nat.ne_of_gt l_q13_q107)).trans f_q107
  replace f_q117 : u161 q117 = some (.inl (cs 0, 144, .inl (fun _ => 0))) := by rw [hu161]; exact (va_up_ne _ _ (Nat.ne_of_gt l_q13_q117)).trans f_q117
  replace f_q114 : u161 q114 = some (.inr (1, [.ref q117, .int (-1), .int 0])) := by rw [hu161]; exact (va_up_ne _ _ (Nat.ne_of_gt l_q13_q114)).trans f_q114
  replace f_q124 : u161 q124 = some (.inl (cs 8, 16, .inr (.inr (.inr (.inr (fun _ => none)))))) := by rw [hu161]; exact (va_up_ne _ _ (Nat.ne_of_gt l_q13_q124)).trans f_q124
  replace f_q121 : u161 q121 = some (.inr (2, [.ref q124, .int 0])) := by rw [hu161]; exact (va_up_ne _ _ (Nat.ne_of_gt l_q13_q121)).trans f_q121
  replace f_q16 : u161 q16 = some (.inl (cs 0, 4, .inl (upd (upd (upd (fun _ => 0) 0 1) 1 1) 2 1))) := by rw [hu161]; exact (va_up_ne _ _ (Nat.ne_of_gt l_q13_q16)).trans f_q16
  replace f_q130 : u161 q130 = some (.inr (5, [.int 0, .int 0, .null, .null, .int 0, .int 0])) := by rw [hu161]; exact (va_up_ne _ _ (Nat.ne_of_gt l_q13_q130)).trans f_q130
  replace f_q1 : u161 q1 = some (.inl (cs 2, 4, .inr (.inr (.inr (.inr (va_up (va_up (va_up (va_up (fun _ => none) 0 (some q28)) 1 (some q62)) 2 (some q96)) 3 (some q130))))))) := by rw [hu161]; exact (va_up_ne _ _ (Nat.ne_of_lt l_q1_q13)).trans f_q1
  replace f_q137 : u161 q137 = some (.inl (cs 0, 12, .inl (fun _ => 0))) := by rw [hu161]; exact (va_up_ne _ _ (Nat.ne_of_gt l_q13_q137)).trans f_q137
  replace f_q134 : u161 q134 = some (.inr (0, [.ref q137, .int (-1)])) := by rw [hu161]; exact (va_up_ne _ _ (Nat.ne_of_gt l_q13_q134)).trans f_q134
  replace f_q4 : u161 q4 = some (.inl (cs 3, 4, .inr (.inr (.inr (.inr (va_up (va_up (va_up (va_up (fun _ => none) 0 (some q32)) 1 (some q66)) 2 (some q100)) 3 (some q134))))))) := by rw [hu161]; exact (va_up_ne _ _ (Nat.ne_of_lt l_q4_q13)).trans f_q4
  replace f_q144 : u161 q144 = some (.inl (cs 7, 12, .inr (.inr (.inr (.inr (fun _ => none)))))) := by rw [hu161]; exact (va_up_ne _ _ (Nat.ne_of_gt l_q13_q144)).trans f_q144
  replace f_q141 : u161 q141 = some (.inr (3, [.ref q144, .int (-1), .int 0])) := by rw [hu161]; exact (va_up_ne _ _ (Nat.ne_of_gt l_q13_q141)).trans f_q141
  replace f_q7 : u161 q7 = some (.inl (cs 4, 4, .inr (.inr (.inr (.inr (va_up (va_up (va_up (va_up (fun _ => none) 0 (some q39)) 1 (some q73)) 2 (some q107)) 3 (some q141))))))) := by rw [hu161]; exact (va_up_ne _ _ (Nat.ne_of_lt l_q7_q13)).trans f_q7
  replace f_q151 : u161 q151 = some (.inl (cs 0, 144, .inl (fun _ => 0))) := by rw [hu161]; exact (va_up_ne _ _ (Nat.ne_of_gt l_q13_q151)).trans f_q151
  replace f_q148 : u161 q148 = some (.inr (1, [.ref q151, .int (-1), .int 0])) := by rw [hu161]; exact (va_up_ne _ _ (Nat.ne_of_gt l_q13_q148)).trans f_q148
  replace f_q10 : u161 q10 = some (.inl (cs 5, 4, .inr (.inr (.inr (.inr (va_up (va_up (va_up (va_up (fun _ => none) 0 (some q46)) 1 (some q80)) 2 (some q114)) 3 (some q148))))))) := by rw [hu161]; exact (va_up_ne _ _ (Nat.ne_of_lt l_q10_q13)).trans f_q10
  replace f_q158 : u161 q158 = some (.inl (cs 8, 16, .inr (.inr (.inr (.inr (fun _ => none)))))) := by rw [hu161]; exact (va_up_ne _ _ (Nat.ne_of_gt l_q13_q158)).trans f_q158
  replace f_q155 : u161 q155 = some (.inr (2, [.ref q158, .int 0])) := by rw [hu161]; exact (va_up_ne _ _ (Nat.ne_of_gt l_q13_q155)).trans f_q155
  replace f_q13 : u161 q13 = some (.inl (cs 6, 4, .inr (.inr (.inr (.inr (va_up (va_up (va_up (va_up (fun _ => none) 0 (some q53)) 1 (some q87)) 2 (some q121)) 3 (some q155))))))) := by rw [hu161]; exact va_up_self _ _ _
  refine lv_aload_n hx hb dX8_init_142 rfl (lv_at hl 1 rfl) ?_
  refine fw_get X gC_ok hF f_h0 rfl 5 (by decide) wm_181 rfl dX8_init_143 ?_
  refine lv_iload_n hx hb dX8_init_146 rfl (lv_at hl 0 rfl) ?_
  refine lv_iconst (v := 1) hx hb dX8_init_147 (by decide) ?_
  refine fw_iast X hF hS f_q16 0 rfl (vp_in_iff.mpr (by decide)) dX8_init_148 (fun H locs hF hS => ?_)
  have hF : fw_P D cls10 A (va_up u161 q16 (some (.inl (cs 0, 4, .inl (upd (upd (upd (upd (fun _ => 0) 0 1) 1 1) 2 1) 3 1))))) H := hF
  obtain ⟨u162, hu162⟩ : ∃ y : fW, y = va_up u161 q16 (some (.inl (cs 0, 4, .inl (upd (upd (upd (upd (fun _ => 0) 0 1) 1 1) 2 1) 3 1)))) := ⟨_, rfl⟩
  rw [← hu162] at hF
  replace f_q19 : u162 q19 = some (.inl (cs 0, 8, .inl (fun _ => 0))) := by rw [hu162]; exact (va_up_ne _ _ (Nat.ne_of_gt l_q16_q19)).trans f_q19
  replace f_q22 : u162 q22 = some (.inr (4, [.int 0, .int 0, .int 0, .int (-1), .int 0, .long 0])) := by rw [hu162]; exact (va_up_ne _ _ (Nat.ne_of_gt l_q16_q22)).trans f_q22
  replace f_h0 : u162 h0 = some (.inr (8, [.ref q1, .ref q4, .ref q7, .ref q10, .ref q13, .ref q16, .ref q19, .ref q22])) := by rw [hu162]; exact (va_up_ne _ _ (Nat.ne_of_lt l_h0_q16)).trans f_h0
  replace f_q28 : u162 q28 = some (.inr (5, [.int 0, .int 0, .null, .null, .int 0, .int 0])) := by rw [hu162]; exact (va_up_ne _ _ (Nat.ne_of_gt l_q16_q28)).trans f_q28
  replace f_q35 : u162 q35 = some (.inl (cs 0, 12, .inl (fun _ => 0))) := by rw [hu162]; exact (va_up_ne _ _ (Nat.ne_of_gt l_q16_q35)).trans f_q35
  replace f_q32 : u162 q32 = some (.inr (0, [.ref q35, .int (-1)])) := by rw [hu162]; exact (va_up_ne _ _ (Nat.ne_of_gt l_q16_q32)).trans f_q32
  replace f_q42 : u162 q42 = some (.inl (cs 7, 12, .inr (.inr (.inr (.inr (fun _ => none)))))) := by rw [hu162]; exact (va_up_ne _ _ (Nat.ne_of_gt l_q16_q42)).trans f_q42
  replace f_q39 : u162 q39 = some (.inr (3, [.ref q42, .int (-1), .int 0])) := by rw [hu162]; exact (va_up_ne _ _ (Nat.ne_of_gt l_q16_q39)).trans f_q39
  replace f_q49 : u162 q49 = some (.inl (cs 0, 144, .inl (fun _ => 0))) := by rw [hu162]; exact (va_up_ne _ _ (Nat.ne_of_gt l_q16_q49)).trans f_q49
  replace f_q46 : u162 q46 = some (.inr (1, [.ref q49, .int (-1), .int 0])) := by rw [hu162]; exact (va_up_ne _ _ (Nat.ne_of_gt l_q16_q46)).trans f_q46
  replace f_q56 : u162 q56 = some (.inl (cs 8, 16, .inr (.inr (.inr (.inr (fun _ => none)))))) := by rw [hu162]; exact (va_up_ne _ _ (Nat.ne_of_gt l_q16_q56)).trans f_q56
  replace f_q53 : u162 q53 = some (.inr (2, [.ref q56, .int 0])) := by rw [hu162]; exact (va_up_ne _ _ (Nat.ne_of_gt l_q16_q53)).trans f_q53
  replace f_q62 : u162 q62 = some (.inr (5, [.int 0, .int 0, .null, .null, .int 0, .int 0])) := by rw [hu162]; exact (va_up_ne _ _ (Nat.ne_of_gt l_q16_q62)).trans f_q62
  replace f_q69 : u162 q69 = some (.inl (cs 0, 12, .inl (fun _ => 0))) := by rw [hu162]; exact (va_up_ne _ _ (Nat.ne_of_gt l_q16_q69)).trans f_q69
  replace f_q66 : u162 q66 = some (.inr (0, [.ref q69, .int (-1)])) := by rw [hu162]; exact (va_up_ne _ _ (Nat.ne_of_gt l_q16_q66)).trans f_q66
  replace f_q76 : u162 q76 = some (.inl (cs 7, 12, .inr (.inr (.inr (.inr (fun _ => none)))))) := by rw [hu162]; exact (va_up_ne _ _ (Nat.ne_of_gt l_q16_q76)).trans f_q76
  replace f_q73 : u162 q73 = some (.inr (3, [.ref q76, .int (-1), .int 0])) := by rw [hu162]; exact (va_up_ne _ _ (Nat.ne_of_gt l_q16_q73)).trans f_q73
  replace f_q83 : u162 q83 = some (.inl (cs 0, 144, .inl (fun _ => 0))) := by rw [hu162]; exact (va_up_ne _ _ (Nat.ne_of_gt l_q16_q83)).trans f_q83
  replace f_q80 : u162 q80 = some (.inr (1, [.ref q83, .int (-1), .int 0])) := by rw [hu162]; exact (va_up_ne _ _ (Nat.ne_of_gt l_q16_q80)).trans f_q80
  replace f_q90 : u162 q90 = some (.inl (cs 8, 16, .inr (.inr (.inr (.inr (fun _ => none)))))) := by rw [hu162]; exact (va_up_ne _ _ (Nat.ne_of_gt l_q16_q90)).trans f_q90
  replace f_q87 : u162 q87 = some (.inr (2, [.ref q90, .int 0])) := by rw [hu162]; exact (va_up_ne _ _ (Nat.ne_of_gt l_q16_q87)).trans f_q87
  replace f_q96 : u162 q96 = some (.inr (5, [.int 0, .int 0, .null, .null, .int 0, .int 0])) := by rw [hu162]; exact (va_up_ne _ _ (Nat.ne_of_gt l_q16_q96)).trans f_q96
  replace f_q103 : u162 q103 = some (.inl (cs 0, 12, .inl (fun _ => 0))) := by rw [hu162]; exact (va_up_ne _ _ (Nat.ne_of_gt l_q16_q103)).trans f_q103
  replace f_q100 : u162 q100 = some (.inr (0, [.ref q103, .int (-1)])) := by rw [hu162]; exact (va_up_ne _ _ (Nat.ne_of_gt l_q16_q100)).trans f_q100
  replace f_q110 : u162 q110 = some (.inl (cs 7, 12, .inr (.inr (.inr (.inr (fun _ => none)))))) := by rw [hu162]; exact (va_up_ne _ _ (Nat.ne_of_gt l_q16_q110)).trans f_q110
  replace f_q107 : u162 q107 = some (.inr (3, [.ref q110, .int (-1), .int 0])) := by rw [hu162]; exact (va_up_ne _ _ (Nat.ne_of_gt l_q16_q107)).trans f_q107
  replace f_q117 : u162 q117 = some (.inl (cs 0, 144, .inl (fun _ => 0))) := by rw [hu162]; exact (va_up_ne _ _ (Nat.ne_of_gt l_q16_q117)).trans f_q117
  replace f_q114 : u162 q114 = some (.inr (1, [.ref q117, .int (-1), .int 0])) := by rw [hu162]; exact (va_up_ne _ _ (Nat.ne_of_gt l_q16_q114)).trans f_q114
  replace f_q124 : u162 q124 = some (.inl (cs 8, 16, .inr (.inr (.inr (.inr (fun _ => none)))))) := by rw [hu162]; exact (va_up_ne _ _ (Nat.ne_of_gt l_q16_q124)).trans f_q124
  replace f_q121 : u162 q121 = some (.inr (2, [.ref q124, .int 0])) := by rw [hu162]; exact (va_up_ne _ _ (Nat.ne_of_gt l_q16_q121)).trans f_q121
  replace f_q130 : u162 q130 = some (.inr (5, [.int 0, .int 0, .null, .null, .int 0, .int 0])) := by rw [hu162]; exact (va_up_ne _ _ (Nat.ne_of_gt l_q16_q130)).trans f_q130
  replace f_q1 : u162 q1 = some (.inl (cs 2, 4, .inr (.inr (.inr (.inr (va_up (va_up (va_up (va_up (fun _ => none) 0 (some q28)) 1 (some q62)) 2 (some q96)) 3 (some q130))))))) := by rw [hu162]; exact (va_up_ne _ _ (Nat.ne_of_lt l_q1_q16)).trans f_q1
  replace f_q137 : u162 q137 = some (.inl (cs 0, 12, .inl (fun _ => 0))) := by rw [hu162]; exact (va_up_ne _ _ (Nat.ne_of_gt l_q16_q137)).trans f_q137
  replace f_q134 : u162 q134 = some (.inr (0, [.ref q137, .int (-1)])) := by rw [hu162]; exact (va_up_ne _ _ (Nat.ne_of_gt l_q16_q134)).trans f_q134
  replace f_q4 : u162 q4 = some (.inl (cs 3, 4, .inr (.inr (.inr (.inr (va_up (va_up (va_up (va_up (fun _ => none) 0 (some q32)) 1 (some q66)) 2 (some q100)) 3 (some q134))))))) := by rw [hu162]; exact (va_up_ne _ _ (Nat.ne_of_lt l_q4_q16)).trans f_q4
  replace f_q144 : u162 q144 = some (.inl (cs 7, 12, .inr (.inr (.inr (.inr (fun _ => none)))))) := by rw [hu162]; exact (va_up_ne _ _ (Nat.ne_of_gt l_q16_q144)).trans f_q144
  replace f_q141 : u162 q141 = some (.inr (3, [.ref q144, .int (-1), .int 0])) := by rw [hu162]; exact (va_up_ne _ _ (Nat.ne_of_gt l_q16_q141)).trans f_q141
  replace f_q7 : u162 q7 = some (.inl (cs 4, 4, .inr (.inr (.inr (.inr (va_up (va_up (va_up (va_up (fun _ => none) 0 (some q39)) 1 (some q73)) 2 (some q107)) 3 (some q141))))))) := by rw [hu162]; exact (va_up_ne _ _ (Nat.ne_of_lt l_q7_q16)).trans f_q7
  replace f_q151 : u162 q151 = some (.inl (cs 0, 144, .inl (fun _ => 0))) := by rw [hu162]; exact (va_up_ne _ _ (Nat.ne_of_gt l_q16_q151)).trans f_q151
  replace f_q148 : u162 q148 = some (.inr (1, [.ref q151, .int (-1), .int 0])) := by rw [hu162]; exact (va_up_ne _ _ (Nat.ne_of_gt l_q16_q148)).trans f_q148
  replace f_q10 : u162 q10 = some (.inl (cs 5, 4, .inr (.inr (.inr (.inr (va_up (va_up (va_up (va_up (fun _ => none) 0 (some q46)) 1 (some q80)) 2 (some q114)) 3 (some q148))))))) := by rw [hu162]; exact (va_up_ne _ _ (Nat.ne_of_lt l_q10_q16)).trans f_q10
  replace f_q158 : u162 q158 = some (.inl (cs 8, 16, .inr (.inr (.inr (.inr (fun _ => none)))))) := by rw [hu162]; exact (va_up_ne _ _ (Nat.ne_of_gt l_q16_q158)).trans f_q158
  replace f_q155 : u162 q155 = some (.inr (2, [.ref q158, .int 0])) := by rw [hu162]; exact (va_up_ne _ _ (Nat.ne_of_gt l_q16_q155)).trans f_q155
  replace f_q13 : u162 q13 = some (.inl (cs 6, 4, .inr (.inr (.inr (.inr (va_up (va_up (va_up (va_up (fun _ => none) 0 (some q53)) 1 (some q87)) 2 (some q121)) 3 (some q155))))))) := by rw [hu162]; exact (va_up_ne _ _ (Nat.ne_of_lt l_q13_q16)).trans f_q13
  replace f_q16 : u162 q16 = some (.inl (cs 0, 4, .inl (upd (upd (upd (upd (fun _ => 0) 0 1) 1 1) 2 1) 3 1))) := by rw [hu162]; exact va_up_self _ _ _
  refine lv_iinc (v := 4) (lv' := [(1, .int 4), (0, .ref h0)]) hx hb dX8_init_149 hl (k := 0) rfl (by decide) (by decide) rfl (fun ls hl => ?_)
  refine lv_goto (tgt := 72) hx hb dX8_init_152 (by decide) ?_
  refine lv_iload_n hx hb dX8_init_72 rfl (lv_at hl 0 rfl) ?_
  refine lv_iconst (v := 4) hx hb dX8_init_73 (by decide) ?_
  refine lv_icmp_ge (tgt := 155) hx hb dX8_init_74 (by decide) (fun _ => ?_) (fun h => absurd h (by decide))
  obtain ⟨zz9, hzz⟩ : ∃ z, z = H.size := ⟨_, rfl⟩
  have l_q158_zz9 : q158 < zz9 := by rw [hzz]; exact hF.lt f_q158
  obtain ⟨ad, had⟩ : ∃ ad : Nat → Nat, ad = (fun t => ([h0, q1, q4, q7, q10, q13, q16, q19, q22, zz9, q28, q62, q96, q130, q32, q66, q100, q134, q35, q69, q103, q137, q39, q73, q107, q141, q42, q76, q110, q144, q46, q80, q114, q148, q49, q83, q117, q151, q53, q87, q121, q155, q56, q90, q124, q158] : List Nat).getD t 0) := ⟨_, rfl⟩
  have hai : adI ad := by
    refine ad_inj [h0, q1, q4, q7, q10, q13, q16, q19, q22, q28, q32, q35, q39, q42, q46, q49, q53, q56, q62, q66, q69, q73, q76, q80, q83, q87, q90, q96, q100, q103, q107, q110, q114, q117, q121, q124, q130, q134, q137, q141, q144, q148, q151, q155, q158, zz9] [0, 1, 2, 3, 4, 5, 6, 7, 8, 45, 9, 18, 27, 36, 10, 19, 28, 37, 11, 20, 29, 38, 12, 21, 30, 39, 13, 22, 31, 40, 14, 23, 32, 41, 15, 24, 33, 42, 16, 25, 34, 43, 17, 26, 35, 44] (mono_of _ 46 (fun k hk => ?_)) (by decide +kernel) (fun t ht => ?_)
    · match k, hk with
      | 0, _ => exact l_h0_q1
      | 1, _ => exact l_q1_q4
      | 2, _ => exact l_q4_q7
      | 3, _ => exact l_q7_q10
      | 4, _ => exact l_q10_q13
      | 5, _ => exact l_q13_q16
      | 6, _ => exact l_q16_q19
      | 7, _ => exact l_q19_q22
      | 8, _ => exact l_q22_q28
      | 9, _ => exact l_q28_q32
      | 10, _ => exact l_q32_q35
      | 11, _ => exact l_q35_q39
      | 12, _ => exact l_q39_q42
      | 13, _ => exact l_q42_q46
      | 14, _ => exact l_q46_q49
      | 15, _ => exact l_q49_q53
      | 16, _ => exact l_q53_q56
      | 17, _ => exact l_q56_q62
      | 18, _ => exact l_q62_q66
      | 19, _ => exact l_q66_q69
      | 20, _ => exact l_q69_q73
      | 21, _ => exact l_q73_q76
      | 22, _ => exact l_q76_q80
      | 23, _ => exact l_q80_q83
      | 24, _ => exact l_q83_q87
      | 25, _ => exact l_q87_q90
      | 26, _ => exact l_q90_q96
      | 27, _ => exact l_q96_q100
      | 28, _ => exact l_q100_q103
      | 29, _ => exact l_q103_q107
      | 30, _ => exact l_q107_q110
      | 31, _ => exact l_q110_q114
      | 32, _ => exact l_q114_q117
      | 33, _ => exact l_q117_q121
      | 34, _ => exact l_q121_q124
      | 35, _ => exact l_q124_q130
      | 36, _ => exact l_q130_q134
      | 37, _ => exact l_q134_q137
      | 38, _ => exact l_q137_q141
      | 39, _ => exact l_q141_q144
      | 40, _ => exact l_q144_q148
      | 41, _ => exact l_q148_q151
      | 42, _ => exact l_q151_q155
      | 43, _ => exact l_q155_q158
      | 44, _ => exact l_q158_zz9
      | k + 45, h => exact absurd h (by omega)
    · rw [had]
      match t, ht with
      | 0, _ => rfl
      | 1, _ => rfl
      | 2, _ => rfl
      | 3, _ => rfl
      | 4, _ => rfl
      | 5, _ => rfl
      | 6, _ => rfl
      | 7, _ => rfl
      | 8, _ => rfl
      | 9, _ => rfl
      | 10, _ => rfl
      | 11, _ => rfl
      | 12, _ => rfl
      | 13, _ => rfl
      | 14, _ => rfl
      | 15, _ => rfl
      | 16, _ => rfl
      | 17, _ => rfl
      | 18, _ => rfl
      | 19, _ => rfl
      | 20, _ => rfl
      | 21, _ => rfl
      | 22, _ => rfl
      | 23, _ => rfl
      | 24, _ => rfl
      | 25, _ => rfl
      | 26, _ => rfl
      | 27, _ => rfl
      | 28, _ => rfl
      | 29, _ => rfl
      | 30, _ => rfl
      | 31, _ => rfl
      | 32, _ => rfl
      | 33, _ => rfl
      | 34, _ => rfl
      | 35, _ => rfl
      | 36, _ => rfl
      | 37, _ => rfl
      | 38, _ => rfl
      | 39, _ => rfl
      | 40, _ => rfl
      | 41, _ => rfl
      | 42, _ => rfl
      | 43, _ => rfl
      | 44, _ => rfl
      | 45, _ => rfl
      | t + 46, h => exact absurd h (by omega)
  rw [← gx_upid f_q1] at hF
  have hF := hF.arq (g := fun j => some (ad (10 + j))) (fun j hj => by
    rw [had]; match j, hj with
    | 0, _ => rfl
    | 1, _ => rfl
    | 2, _ => rfl
    | 3, _ => rfl
    | j + 4, h => exact absurd h (by omega))
  obtain ⟨u164, hu164⟩ : ∃ y : fW, y = va_up u162 q1 (some (.inl (cs 2, 4, .inr (.inr (.inr (.inr (fun j => some (ad (10 + j))))))))) := ⟨_, rfl⟩
  rw [← hu164] at hF
  replace f_q19 : u164 q19 = some (.inl (cs 0, 8, .inl (fun _ => 0))) := by rw [hu164]; exact (va_up_ne _ _ (Nat.ne_of_gt l_q1_q19)).trans f_q19
  replace f_q22 : u164 q22 = some (.inr (4, [.int 0, .int 0, .int 0, .int (-1), .int 0, .long 0])) := by rw [hu164]; exact (va_up_ne _ _ (Nat.ne_of_gt l_q1_q22)).trans f_q22
  replace f_h0 : u164 h0 = some (.inr (8, [.ref q1, .ref q4, .ref q7, .ref q10, .ref q13, .ref q16, .ref q19, .ref q22])) := by rw [hu164]; exact (va_up_ne _ _ (Nat.ne_of_lt l_h0_q1)).trans f_h0
  replace f_q28 : u164 q28 = some (.inr (5, [.int 0, .int 0, .null, .null, .int 0, .int 0])) := by rw [hu164]; exact (va_up_ne _ _ (Nat.ne_of_gt l_q1_q28)).trans f_q28
  replace f_q35 : u164 q35 = some (.inl (cs 0, 12, .inl (fun _ => 0))) := by rw [hu164]; exact (va_up_ne _ _ (Nat.ne_of_gt l_q1_q35)).trans f_q35
  replace f_q32 : u164 q32 = some (.inr (0, [.ref q35, .int (-1)])) := by rw [hu164]; exact (va_up_ne _ _ (Nat.ne_of_gt l_q1_q32)).trans f_q32
  replace f_q42 : u164 q42 = some (.inl (cs 7, 12, .inr (.inr (.inr (.inr (fun _ => none)))))) := by rw [hu164]; exact (va_up_ne _ _ (Nat.ne_of_gt l_q1_q42)).trans f_q42
  replace f_q39 : u164 q39 = some (.inr (3, [.ref q42, .int (-1), .int 0])) := by rw [hu164]; exact (va_up_ne _ _ (Nat.ne_of_gt l_q1_q39)).trans f_q39
  replace f_q49 : u164 q49 = some (.inl (cs 0, 144, .inl (fun _ => 0))) := by rw [hu164]; exact (va_up_ne _ _ (Nat.ne_of_gt l_q1_q49)).trans f_q49
  replace f_q46 : u164 q46 = some (.inr (1, [.ref q49, .int (-1), .int 0])) := by rw [hu164]; exact (va_up_ne _ _ (Nat.ne_of_gt l_q1_q46)).trans f_q46
  replace f_q56 : u164 q56 = some (.inl (cs 8, 16, .inr (.inr (.inr (.inr (fun _ => none)))))) := by rw [hu164]; exact (va_up_ne _ _ (Nat.ne_of_gt l_q1_q56)).trans f_q56
  replace f_q53 : u164 q53 = some (.inr (2, [.ref q56, .int 0])) := by rw [hu164]; exact (va_up_ne _ _ (Nat.ne_of_gt l_q1_q53)).trans f_q53
  replace f_q62 : u164 q62 = some (.inr (5, [.int 0, .int 0, .null, .null, .int 0, .int 0])) := by rw [hu164]; exact (va_up_ne _ _ (Nat.ne_of_gt l_q1_q62)).trans f_q62
  replace f_q69 : u164 q69 = some (.inl (cs 0, 12, .inl (fun _ => 0))) := by rw [hu164]; exact (va_up_ne _ _ (Nat.ne_of_gt l_q1_q69)).trans f_q69
  replace f_q66 : u164 q66 = some (.inr (0, [.ref q69, .int (-1)])) := by rw [hu164]; exact (va_up_ne _ _ (Nat.ne_of_gt l_q1_q66)).trans f_q66
  replace f_q76 : u164 q76 = some (.inl (cs 7, 12, .inr (.inr (.inr (.inr (fun _ => none)))))) := by rw [hu164]; exact (va_up_ne _ _ (Nat.ne_of_gt l_q1_q76)).trans f_q76
  replace f_q73 : u164 q73 = some (.inr (3, [.ref q76, .int (-1), .int 0])) := by rw [hu164]; exact (va_up_ne _ _ (Nat.ne_of_gt l_q1_q73)).trans f_q73
  replace f_q83 : u164 q83 = some (.inl (cs 0, 144, .inl (fun _ => 0))) := by rw [hu164]; exact (va_up_ne _ _ (Nat.ne_of_gt l_q1_q83)).trans f_q83
  replace f_q80 : u164 q80 = some (.inr (1, [.ref q83, .int (-1), .int 0])) := by rw [hu164]; exact (va_up_ne _ _ (Nat.ne_of_gt l_q1_q80)).trans f_q80
  replace f_q90 : u164 q90 = some (.inl (cs 8, 16, .inr (.inr (.inr (.inr (fun _ => none)))))) := by rw [hu164]; exact (va_up_ne _ _ (Nat.ne_of_gt l_q1_q90)).trans f_q90
  replace f_q87 : u164 q87 = some (.inr (2, [.ref q90, .int 0])) := by rw [hu164]; exact (va_up_ne _ _ (Nat.ne_of_gt l_q1_q87)).trans f_q87
  replace f_q96 : u164 q96 = some (.inr (5, [.int 0, .int 0, .null, .null, .int 0, .int 0])) := by rw [hu164]; exact (va_up_ne _ _ (Nat.ne_of_gt l_q1_q96)).trans f_q96
  replace f_q103 : u164 q103 = some (.inl (cs 0, 12, .inl (fun _ => 0))) := by rw [hu164]; exact (va_up_ne _ _ (Nat.ne_of_gt l_q1_q103)).trans f_q103
  replace f_q100 : u164 q100 = some (.inr (0, [.ref q103, .int (-1)])) := by rw [hu164]; exact (va_up_ne _ _ (Nat.ne_of_gt l_q1_q100)).trans f_q100
  replace f_q110 : u164 q110 = some (.inl (cs 7, 12, .inr (.inr (.inr (.inr (fun _ => none)))))) := by rw [hu164]; exact (va_up_ne _ _ (Nat.ne_of_gt l_q1_q110)).trans f_q110
  replace f_q107 : u164 q107 = some (.inr (3, [.ref q110, .int (-1), .int 0])) := by rw [hu164]; exact (va_up_ne _ _ (Nat.ne_of_gt l_q1_q107)).trans f_q107
  replace f_q117 : u164 q117 = some (.inl (cs 0, 144, .inl (fun _ => 0))) := by rw [hu164]; exact (va_up_ne _ _ (Nat.ne_of_gt l_q1_q117)).trans f_q117
  replace f_q114 : u164 q114 = some (.inr (1, [.ref q117, .int (-1), .int 0])) := by rw [hu164]; exact (va_up_ne _ _ (Nat.ne_of_gt l_q1_q114)).trans f_q114
  replace f_q124 : u164 q124 = some (.inl (cs 8, 16, .inr (.inr (.inr (.inr (fun _ => none)))))) := by rw [hu164]; exact (va_up_ne _ _ (Nat.ne_of_gt l_q1_q124)).trans f_q124
  replace f_q121 : u164 q121 = some (.inr (2, [.ref q124, .int 0])) := by rw [hu164]; exact (va_up_ne _ _ (Nat.ne_of_gt l_q1_q121)).trans f_q121
  replace f_q130 : u164 q130 = some (.inr (5, [.int 0, .int 0, .null, .null, .int 0, .int 0])) := by rw [hu164]; exact (va_up_ne _ _ (Nat.ne_of_gt l_q1_q130)).trans f_q130
  replace f_q137 : u164 q137 = some (.inl (cs 0, 12, .inl (fun _ => 0))) := by rw [hu164]; exact (va_up_ne _ _ (Nat.ne_of_gt l_q1_q137)).trans f_q137
  replace f_q134 : u164 q134 = some (.inr (0, [.ref q137, .int (-1)])) := by rw [hu164]; exact (va_up_ne _ _ (Nat.ne_of_gt l_q1_q134)).trans f_q134
  replace f_q4 : u164 q4 = some (.inl (cs 3, 4, .inr (.inr (.inr (.inr (va_up (va_up (va_up (va_up (fun _ => none) 0 (some q32)) 1 (some q66)) 2 (some q100)) 3 (some q134))))))) := by rw [hu164]; exact (va_up_ne _ _ (Nat.ne_of_gt l_q1_q4)).trans f_q4
  replace f_q144 : u164 q144 = some (.inl (cs 7, 12, .inr (.inr (.inr (.inr (fun _ => none)))))) := by rw [hu164]; exact (va_up_ne _ _ (Nat.ne_of_gt l_q1_q144)).trans f_q144
  replace f_q141 : u164 q141 = some (.inr (3, [.ref q144, .int (-1), .int 0])) := by rw [hu164]; exact (va_up_ne _ _ (Nat.ne_of_gt l_q1_q141)).trans f_q141
  replace f_q7 : u164 q7 = some (.inl (cs 4, 4, .inr (.inr (.inr (.inr (va_up (va_up (va_up (va_up (fun _ => none) 0 (some q39)) 1 (some q73)) 2 (some q107)) 3 (some q141))))))) := by rw [hu164]; exact (va_up_ne _ _ (Nat.ne_of_gt l_q1_q7)).trans f_q7
  replace f_q151 : u164 q151 = some (.inl (cs 0, 144, .inl (fun _ => 0))) := by rw [hu164]; exact (va_up_ne _ _ (Nat.ne_of_gt l_q1_q151)).trans f_q151
  replace f_q148 : u164 q148 = some (.inr (1, [.ref q151, .int (-1), .int 0])) := by rw [hu164]; exact (va_up_ne _ _ (Nat.ne_of_gt l_q1_q148)).trans f_q148
  replace f_q10 : u164 q10 = some (.inl (cs 5, 4, .inr (.inr (.inr (.inr (va_up (va_up (va_up (va_up (fun _ => none) 0 (some q46)) 1 (some q80)) 2 (some q114)) 3 (some q148))))))) := by rw [hu164]; exact (va_up_ne _ _ (Nat.ne_of_gt l_q1_q10)).trans f_q10
  replace f_q158 : u164 q158 = some (.inl (cs 8, 16, .inr (.inr (.inr (.inr (fun _ => none)))))) := by rw [hu164]; exact (va_up_ne _ _ (Nat.ne_of_gt l_q1_q158)).trans f_q158
  replace f_q155 : u164 q155 = some (.inr (2, [.ref q158, .int 0])) := by rw [hu164]; exact (va_up_ne _ _ (Nat.ne_of_gt l_q1_q155)).trans f_q155
  replace f_q13 : u164 q13 = some (.inl (cs 6, 4, .inr (.inr (.inr (.inr (va_up (va_up (va_up (va_up (fun _ => none) 0 (some q53)) 1 (some q87)) 2 (some q121)) 3 (some q155))))))) := by rw [hu164]; exact (va_up_ne _ _ (Nat.ne_of_gt l_q1_q13)).trans f_q13
  replace f_q16 : u164 q16 = some (.inl (cs 0, 4, .inl (upd (upd (upd (upd (fun _ => 0) 0 1) 1 1) 2 1) 3 1))) := by rw [hu164]; exact (va_up_ne _ _ (Nat.ne_of_gt l_q1_q16)).trans f_q16
  replace f_q1 : u164 q1 = some (.inl (cs 2, 4, .inr (.inr (.inr (.inr (fun j => some (ad (10 + j)))))))) := by rw [hu164]; exact va_up_self _ _ _
  rw [← gx_upid f_q4] at hF
  have hF := hF.arq (g := fun j => some (ad (14 + j))) (fun j hj => by
    rw [had]; match j, hj with
    | 0, _ => rfl
    | 1, _ => rfl
    | 2, _ => rfl
    | 3, _ => rfl
    | j + 4, h => exact absurd h (by omega))
  obtain ⟨u165, hu165⟩ : ∃ y : fW, y = va_up u164 q4 (some (.inl (cs 3, 4, .inr (.inr (.inr (.inr (fun j => some (ad (14 + j))))))))) := ⟨_, rfl⟩
  rw [← hu165] at hF
  replace f_q19 : u165 q19 = some (.inl (cs 0, 8, .inl (fun _ => 0))) := by rw [hu165]; exact (va_up_ne _ _ (Nat.ne_of_gt l_q4_q19)).trans f_q19
  replace f_q22 : u165 q22 = some (.inr (4, [.int 0, .int 0, .int 0, .int (-1), .int 0, .long 0])) := by rw [hu165]; exact (va_up_ne _ _ (Nat.ne_of_gt l_q4_q22)).trans f_q22
  replace f_h0 : u165 h0 = some (.inr (8, [.ref q1, .ref q4, .ref q7, .ref q10, .ref q13, .ref q16, .ref q19, .ref q22])) := by rw [hu165]; exact (va_up_ne _ _ (Nat.ne_of_lt l_h0_q4)).trans f_h0
  replace f_q28 : u165 q28 = some (.inr (5, [.int 0, .int 0, .null, .null, .int 0, .int 0])) := by rw [hu165]; exact (va_up_ne _ _ (Nat.ne_of_gt l_q4_q28)).trans f_q28
  replace f_q35 : u165 q35 = some (.inl (cs 0, 12, .inl (fun _ => 0))) := by rw [hu165]; exact (va_up_ne _ _ (Nat.ne_of_gt l_q4_q35)).trans f_q35
  replace f_q32 : u165 q32 = some (.inr (0, [.ref q35, .int (-1)])) := by rw [hu165]; exact (va_up_ne _ _ (Nat.ne_of_gt l_q4_q32)).trans f_q32
  replace f_q42 : u165 q42 = some (.inl (cs 7, 12, .inr (.inr (.inr (.inr (fun _ => none)))))) := by rw [hu165]; exact (va_up_ne _ _ (Nat.ne_of_gt l_q4_q42)).trans f_q42
  replace f_q39 : u165 q39 = some (.inr (3, [.ref q42, .int (-1), .int 0])) := by rw [hu165]; exact (va_up_ne _ _ (Nat.ne_of_gt l_q4_q39)).trans f_q39
  replace f_q49 : u165 q49 = some (.inl (cs 0, 144, .inl (fun _ => 0))) := by rw [hu165]; exact (va_up_ne _ _ (Nat.ne_of_gt l_q4_q49)).trans f_q49
  replace f_q46 : u165 q46 = some (.inr (1, [.ref q49, .int (-1), .int 0])) := by rw [hu165]; exact (va_up_ne _ _ (Nat.ne_of_gt l_q4_q46)).trans f_q46
  replace f_q56 : u165 q56 = some (.inl (cs 8, 16, .inr (.inr (.inr (.inr (fun _ => none)))))) := by rw [hu165]; exact (va_up_ne _ _ (Nat.ne_of_gt l_q4_q56)).trans f_q56
  replace f_q53 : u165 q53 = some (.inr (2, [.ref q56, .int 0])) := by rw [hu165]; exact (va_up_ne _ _ (Nat.ne_of_gt l_q4_q53)).trans f_q53
  replace f_q62 : u165 q62 = some (.inr (5, [.int 0, .int 0, .null, .null, .int 0, .int 0])) := by rw [hu165]; exact (va_up_ne _ _ (Nat.ne_of_gt l_q4_q62)).trans f_q62
  replace f_q69 : u165 q69 = some (.inl (cs 0, 12, .inl (fun _ => 0))) := by rw [hu165]; exact (va_up_ne _ _ (Nat.ne_of_gt l_q4_q69)).trans f_q69
  replace f_q66 : u165 q66 = some (.inr (0, [.ref q69, .int (-1)])) := by rw [hu165]; exact (va_up_ne _ _ (Nat.ne_of_gt l_q4_q66)).trans f_q66
  replace f_q76 : u165 q76 = some (.inl (cs 7, 12, .inr (.inr (.inr (.inr (fun _ => none)))))) := by rw [hu165]; exact (va_up_ne _ _ (Nat.ne_of_gt l_q4_q76)).trans f_q76
  replace f_q73 : u165 q73 = some (.inr (3, [.ref q76, .int (-1), .int 0])) := by rw [hu165]; exact (va_up_ne _ _ (Nat.ne_of_gt l_q4_q73)).trans f_q73
  replace f_q83 : u165 q83 = some (.inl (cs 0, 144, .inl (fun _ => 0))) := by rw [hu165]; exact (va_up_ne _ _ (Nat.ne_of_gt l_q4_q83)).trans f_q83
  replace f_q80 : u165 q80 = some (.inr (1, [.ref q83, .int (-1), .int 0])) := by rw [hu165]; exact (va_up_ne _ _ (Nat.ne_of_gt l_q4_q80)).trans f_q80
  replace f_q90 : u165 q90 = some (.inl (cs 8, 16, .inr (.inr (.inr (.inr (fun _ => none)))))) := by rw [hu165]; exact (va_up_ne _ _ (Nat.ne_of_gt l_q4_q90)).trans f_q90
  replace f_q87 : u165 q87 = some (.inr (2, [.ref q90, .int 0])) := by rw [hu165]; exact (va_up_ne _ _ (Nat.ne_of_gt l_q4_q87)).trans f_q87
  replace f_q96 : u165 q96 = some (.inr (5, [.int 0, .int 0, .null, .null, .int 0, .int 0])) := by rw [hu165]; exact (va_up_ne _ _ (Nat.ne_of_gt l_q4_q96)).trans f_q96
  replace f_q103 : u165 q103 = some (.inl (cs 0, 12, .inl (fun _ => 0))) := by rw [hu165]; exact (va_up_ne _ _ (Nat.ne_of_gt l_q4_q103)).trans f_q103
  replace f_q100 : u165 q100 = some (.inr (0, [.ref q103, .int (-1)])) := by rw [hu165]; exact (va_up_ne _ _ (Nat.ne_of_gt l_q4_q100)).trans f_q100
  replace f_q110 : u165 q110 = some (.inl (cs 7, 12, .inr (.inr (.inr (.inr (fun _ => none)))))) := by rw [hu165]; exact (va_up_ne _ _ (Nat.ne_of_gt l_q4_q110)).trans f_q110
  replace f_q107 : u165 q107 = some (.inr (3, [.ref q110, .int (-1), .int 0])) := by rw [hu165]; exact (va_up_ne _ _ (Nat.ne_of_gt l_q4_q107)).trans f_q107
  replace f_q117 : u165 q117 = some (.inl (cs 0, 144, .inl (fun _ => 0))) := by rw [hu165]; exact (va_up_ne _ _ (Nat.ne_of_gt l_q4_q117)).trans f_q117
  replace f_q114 : u165 q114 = some (.inr (1, [.ref q117, .int (-1), .int 0])) := by rw [hu165]; exact (va_up_ne _ _ (Nat.ne_of_gt l_q4_q114)).trans f_q114
  replace f_q124 : u165 q124 = some (.inl (cs 8, 16, .inr (.inr (.inr (.inr (fun _ => none)))))) := by rw [hu165]; exact (va_up_ne _ _ (Nat.ne_of_gt l_q4_q124)).trans f_q124
  replace f_q121 : u165 q121 = some (.inr (2, [.ref q124, .int 0])) := by rw [hu165]; exact (va_up_ne _ _ (Nat.ne_of_gt l_q4_q121)).trans f_q121
  replace f_q130 : u165 q130 = some (.inr (5, [.int 0, .int 0, .null, .null, .int 0, .int 0])) := by rw [hu165]; exact (va_up_ne _ _ (Nat.ne_of_gt l_q4_q130)).trans f_q130
  replace f_q137 : u165 q137 = some (.inl (cs 0, 12, .inl (fun _ => 0))) := by rw [hu165]; exact (va_up_ne _ _ (Nat.ne_of_gt l_q4_q137)).trans f_q137
  replace f_q134 : u165 q134 = some (.inr (0, [.ref q137, .int (-1)])) := by rw [hu165]; exact (va_up_ne _ _ (Nat.ne_of_gt l_q4_q134)).trans f_q134
  replace f_q144 : u165 q144 = some (.inl (cs 7, 12, .inr (.inr (.inr (.inr (fun _ => none)))))) := by rw [hu165]; exact (va_up_ne _ _ (Nat.ne_of_gt l_q4_q144)).trans f_q144
  replace f_q141 : u165 q141 = some (.inr (3, [.ref q144, .int (-1), .int 0])) := by rw [hu165]; exact (va_up_ne _ _ (Nat.ne_of_gt l_q4_q141)).trans f_q141
  replace f_q7 : u165 q7 = some (.inl (cs 4, 4, .inr (.inr (.inr (.inr (va_up (va_up (va_up (va_up (fun _ => none) 0 (some q39)) 1 (some q73)) 2 (some q107)) 3 (some q141))))))) := by rw [hu165]; exact (va_up_ne _ _ (Nat.ne_of_gt l_q4_q7)).trans f_q7
  replace f_q151 : u165 q151 = some (.inl (cs 0, 144, .inl (fun _ => 0))) := by rw [hu165]; exact (va_up_ne _ _ (Nat.ne_of_gt l_q4_q151)).trans f_q151
  replace f_q148 : u165 q148 = some (.inr (1, [.ref q151, .int (-1), .int 0])) := by rw [hu165]; exact (va_up_ne _ _ (Nat.ne_of_gt l_q4_q148)).trans f_q148
  replace f_q10 : u165 q10 = some (.inl (cs 5, 4, .inr (.inr (.inr (.inr (va_up (va_up (va_up (va_up (fun _ => none) 0 (some q46)) 1 (some q80)) 2 (some q114)) 3 (some q148))))))) := by rw [hu165]; exact (va_up_ne _ _ (Nat.ne_of_gt l_q4_q10)).trans f_q10
  replace f_q158 : u165 q158 = some (.inl (cs 8, 16, .inr (.inr (.inr (.inr (fun _ => none)))))) := by rw [hu165]; exact (va_up_ne _ _ (Nat.ne_of_gt l_q4_q158)).trans f_q158
  replace f_q155 : u165 q155 = some (.inr (2, [.ref q158, .int 0])) := by rw [hu165]; exact (va_up_ne _ _ (Nat.ne_of_gt l_q4_q155)).trans f_q155
  replace f_q13 : u165 q13 = some (.inl (cs 6, 4, .inr (.inr (.inr (.inr (va_up (va_up (va_up (va_up (fun _ => none) 0 (some q53)) 1 (some q87)) 2 (some q121)) 3 (some q155))))))) := by rw [hu165]; exact (va_up_ne _ _ (Nat.ne_of_gt l_q4_q13)).trans f_q13
  replace f_q16 : u165 q16 = some (.inl (cs 0, 4, .inl (upd (upd (upd (upd (fun _ => 0) 0 1) 1 1) 2 1) 3 1))) := by rw [hu165]; exact (va_up_ne _ _ (Nat.ne_of_gt l_q4_q16)).trans f_q16
  replace f_q1 : u165 q1 = some (.inl (cs 2, 4, .inr (.inr (.inr (.inr (fun j => some (ad (10 + j)))))))) := by rw [hu165]; exact (va_up_ne _ _ (Nat.ne_of_lt l_q1_q4)).trans f_q1
  replace f_q4 : u165 q4 = some (.inl (cs 3, 4, .inr (.inr (.inr (.inr (fun j => some (ad (14 + j)))))))) := by rw [hu165]; exact va_up_self _ _ _
  rw [← gx_upid f_q7] at hF
  have hF := hF.arq (g := fun j => some (ad (22 + j))) (fun j hj => by
    rw [had]; match j, hj with
    | 0, _ => rfl
    | 1, _ => rfl
    | 2, _ => rfl
    | 3, _ => rfl
    | j + 4, h => exact absurd h (by omega))
  obtain ⟨u166, hu166⟩ : ∃ y : fW, y = va_up u165 q7 (some (.inl (cs 4, 4, .inr (.inr (.inr (.inr (fun j => some (ad (22 + j))))))))) := ⟨_, rfl⟩
  rw [← hu166] at hF
  replace f_q19 : u166 q19 = some (.inl (cs 0, 8, .inl (fun _ => 0))) := by rw [hu166]; exact (va_up_ne _ _ (Nat.ne_of_gt l_q7_q19)).trans f_q19
  replace f_q22 : u166 q22 = some (.inr (4, [.int 0, .int 0, .int 0, .int (-1), .int 0, .long 0])) := by rw [hu166]; exact (va_up_ne _ _ (Nat.ne_of_gt l_q7_q22)).trans f_q22
  replace f_h0 : u166 h0 = some (.inr (8, [.ref q1, .ref q4, .ref q7, .ref q10, .ref q13, .ref q16, .ref q19, .ref q22])) := by rw [hu166]; exact (va_up_ne _ _ (Nat.ne_of_lt l_h0_q7)).trans f_h0
  replace f_q28 : u166 q28 = some (.inr (5, [.int 0, .int 0, .null, .null, .int 0, .int 0])) := by rw [hu166]; exact (va_up_ne _ _ (Nat.ne_of_gt l_q7_q28)).trans f_q28
  replace f_q35 : u166 q35 = some (.inl (cs 0, 12, .inl (fun _ => 0))) := by rw [hu166]; exact (va_up_ne _ _ (Nat.ne_of_gt l_q7_q35)).trans f_q35
  replace f_q32 : u166 q32 = some (.inr (0, [.ref q35, .int (-1)])) := by rw [hu166]; exact (va_up_ne _ _ (Nat.ne_of_gt l_q7_q32)).trans f_q32
  replace f_q42 : u166 q42 = some (.inl (cs 7, 12, .inr (.inr (.inr (.inr (fun _ => none)))))) := by rw [hu166]; exact (va_up_ne _ _ (Nat.ne_of_gt l_q7_q42)).trans f_q42
  replace f_q39 : u166 q39 = some (.inr (3, [.ref q42, .int (-1), .int 0])) := by rw [hu166]; exact (va_up_ne _ _ (Nat.ne_of_gt l_q7_q39)).trans f_q39
  replace f_q49 : u166 q49 = some (.inl (cs 0, 144, .inl (fun _ => 0))) := by rw [hu166]; exact (va_up_ne _ _ (Nat.ne_of_gt l_q7_q49)).trans f_q49
  replace f_q46 : u166 q46 = some (.inr (1, [.ref q49, .int (-1), .int 0])) := by rw [hu166]; exact (va_up_ne _ _ (Nat.ne_of_gt l_q7_q46)).trans f_q46
  replace f_q56 : u166 q56 = some (.inl (cs 8, 16, .inr (.inr (.inr (.inr (fun _ => none)))))) := by rw [hu166]; exact (va_up_ne _ _ (Nat.ne_of_gt l_q7_q56)).trans f_q56
  replace f_q53 : u166 q53 = some (.inr (2, [.ref q56, .int 0])) := by rw [hu166]; exact (va_up_ne _ _ (Nat.ne_of_gt l_q7_q53)).trans f_q53
  replace f_q62 : u166 q62 = some (.inr (5, [.int 0, .int 0, .null, .null, .int 0, .int 0])) := by rw [hu166]; exact (va_up_ne _ _ (Nat.ne_of_gt l_q7_q62)).trans f_q62
  replace f_q69 : u166 q69 = some (.inl (cs 0, 12, .inl (fun _ => 0))) := by rw [hu166]; exact (va_up_ne _ _ (Nat.ne_of_gt l_q7_q69)).trans f_q69
  replace f_q66 : u166 q66 = some (.inr (0, [.ref q69, .int (-1)])) := by rw [hu166]; exact (va_up_ne _ _ (Nat.ne_of_gt l_q7_q66)).trans f_q66
  replace f_q76 : u166 q76 = some (.inl (cs 7, 12, .inr (.inr (.inr (.inr (fun _ => none)))))) := by rw [hu166]; exact (va_up_ne _ _ (Nat.ne_of_gt l_q7_q76)).trans f_q76
  replace f_q73 : u166 q73 = some (.inr (3, [.ref q76, .int (-1), .int 0])) := by rw [hu166]; exact (va_up_ne _ _ (Nat.ne_of_gt l_q7_q73)).trans f_q73
  replace f_q83 : u166 q83 = some (.inl (cs 0, 144, .inl (fun _ => 0))) := by rw [hu166]; exact (va_up_ne _ _ (Nat.ne_of_gt l_q7_q83)).trans f_q83
  replace f_q80 : u166 q80 = some (.inr (1, [.ref q83, .int (-1), .int 0])) := by rw [hu166]; exact (va_up_ne _ _ (Nat.ne_of_gt l_q7_q80)).trans f_q80
  replace f_q90 : u166 q90 = some (.inl (cs 8, 16, .inr (.inr (.inr (.inr (fun _ => none)))))) := by rw [hu166]; exact (va_up_ne _ _ (Nat.ne_of_gt l_q7_q90)).trans f_q90
  replace f_q87 : u166 q87 = some (.inr (2, [.ref q90, .int 0])) := by rw [hu166]; exact (va_up_ne _ _ (Nat.ne_of_gt l_q7_q87)).trans f_q87
  replace f_q96 : u166 q96 = some (.inr (5, [.int 0, .int 0, .null, .null, .int 0, .int 0])) := by rw [hu166]; exact (va_up_ne _ _ (Nat.ne_of_gt l_q7_q96)).trans f_q96
  replace f_q103 : u166 q103 = some (.inl (cs 0, 12, .inl (fun _ => 0))) := by rw [hu166]; exact (va_up_ne _ _ (Nat.ne_of_gt l_q7_q103)).trans f_q103
  replace f_q100 : u166 q100 = some (.inr (0, [.ref q103, .int (-1)])) := by rw [hu166]; exact (va_up_ne _ _ (Nat.ne_of_gt l_q7_q100)).trans f_q100
  replace f_q110 : u166 q110 = some (.inl (cs 7, 12, .inr (.inr (.inr (.inr (fun _ => none)))))) := by rw [hu166]; exact (va_up_ne _ _ (Nat.ne_of_gt l_q7_q110)).trans f_q110
  replace f_q107 : u166 q107 = some (.inr (3, [.ref q110, .int (-1), .int 0])) := by rw [hu166]; exact (va_up_ne _ _ (Nat.ne_of_gt l_q7_q107)).trans f_q107
  replace f_q117 : u166 q117 = some (.inl (cs 0, 144, .inl (fun _ => 0))) := by rw [hu166]; exact (va_up_ne _ _ (Nat.ne_of_gt l_q7_q117)).trans f_q117
  replace f_q114 : u166 q114 = some (.inr (1, [.ref q117, .int (-1), .int 0])) := by rw [hu166]; exact (va_up_ne _ _ (Nat.ne_of_gt l_q7_q114)).trans f_q114
  replace f_q124 : u166 q124 = some (.inl (cs 8, 16, .inr (.inr (.inr (.inr (fun _ => none)))))) := by rw [hu166]; exact (va_up_ne _ _ (Nat.ne_of_gt l_q7_q124)).trans f_q124
  replace f_q121 : u166 q121 = some (.inr (2, [.ref q124, .int 0])) := by rw [hu166]; exact (va_up_ne _ _ (Nat.ne_of_gt l_q7_q121)).trans f_q121
  replace f_q130 : u166 q130 = some (.inr (5, [.int 0, .int 0, .null, .null, .int 0, .int 0])) := by rw [hu166]; exact (va_up_ne _ _ (Nat.ne_of_gt l_q7_q130)).trans f_q130
  replace f_q137 : u166 q137 = some (.inl (cs 0, 12, .inl (fun _ => 0))) := by rw [hu166]; exact (va_up_ne _ _ (Nat.ne_of_gt l_q7_q137)).trans f_q137
  replace f_q134 : u166 q134 = some (.inr (0, [.ref q137, .int (-1)])) := by rw [hu166]; exact (va_up_ne _ _ (Nat.ne_of_gt l_q7_q134)).trans f_q134
  replace f_q144 : u166 q144 = some (.inl (cs 7, 12, .inr (.inr (.inr (.inr (fun _ => none)))))) := by rw [hu166]; exact (va_up_ne _ _ (Nat.ne_of_gt l_q7_q144)).trans f_q144
  replace f_q141 : u166 q141 = some (.inr (3, [.ref q144, .int (-1), .int 0])) := by rw [hu166]; exact (va_up_ne _ _ (Nat.ne_of_gt l_q7_q141)).trans f_q141
  replace f_q151 : u166 q151 = some (.inl (cs 0, 144, .inl (fun _ => 0))) := by rw [hu166]; exact (va_up_ne _ _ (Nat.ne_of_gt l_q7_q151)).trans f_q151
  replace f_q148 : u166 q148 = some (.inr (1, [.ref q151, .int (-1), .int 0])) := by rw [hu166]; exact (va_up_ne _ _ (Nat.ne_of_gt l_q7_q148)).trans f_q148
  replace f_q10 : u166 q10 = some (.inl (cs 5, 4, .inr (.inr (.inr (.inr (va_up (va_up (va_up (va_up (fun _ => none) 0 (some q46)) 1 (some q80)) 2 (some q114)) 3 (some q148))))))) := by rw [hu166]; exact (va_up_ne _ _ (Nat.ne_of_gt l_q7_q10)).trans f_q10
  replace f_q158 : u166 q158 = some (.inl (cs 8, 16, .inr (.inr (.inr (.inr (fun _ => none)))))) := by rw [hu166]; exact (va_up_ne _ _ (Nat.ne_of_gt l_q7_q158)).trans f_q158
  replace f_q155 : u166 q155 = some (.inr (2, [.ref q158, .int 0])) := by rw [hu166]; exact (va_up_ne _ _ (Nat.ne_of_gt l_q7_q155)).trans f_q155
  replace f_q13 : u166 q13 = some (.inl (cs 6, 4, .inr (.inr (.inr (.inr (va_up (va_up (va_up (va_up (fun _ => none) 0 (some q53)) 1 (some q87)) 2 (some q121)) 3 (some q155))))))) := by rw [hu166]; exact (va_up_ne _ _ (Nat.ne_of_gt l_q7_q13)).trans f_q13
  replace f_q16 : u166 q16 = some (.inl (cs 0, 4, .inl (upd (upd (upd (upd (fun _ => 0) 0 1) 1 1) 2 1) 3 1))) := by rw [hu166]; exact (va_up_ne _ _ (Nat.ne_of_gt l_q7_q16)).trans f_q16
  replace f_q1 : u166 q1 = some (.inl (cs 2, 4, .inr (.inr (.inr (.inr (fun j => some (ad (10 + j)))))))) := by rw [hu166]; exact (va_up_ne _ _ (Nat.ne_of_lt l_q1_q7)).trans f_q1
  replace f_q4 : u166 q4 = some (.inl (cs 3, 4, .inr (.inr (.inr (.inr (fun j => some (ad (14 + j)))))))) := by rw [hu166]; exact (va_up_ne _ _ (Nat.ne_of_lt l_q4_q7)).trans f_q4
  replace f_q7 : u166 q7 = some (.inl (cs 4, 4, .inr (.inr (.inr (.inr (fun j => some (ad (22 + j)))))))) := by rw [hu166]; exact va_up_self _ _ _
  rw [← gx_upid f_q10] at hF
  have hF := hF.arq (g := fun j => some (ad (30 + j))) (fun j hj => by
    rw [had]; match j, hj with
    | 0, _ => rfl
    | 1, _ => rfl
    | 2, _ => rfl
    | 3, _ => rfl
    | j + 4, h => exact absurd h (by omega))
  obtain ⟨u167, hu167⟩ : ∃ y : fW, y = va_up u166 q10 (some (.inl (cs 5, 4, .inr (.inr (.inr (.inr (fun j => some (ad (30 + j))))))))) := ⟨_, rfl⟩
  rw [← hu167] at hF
  replace f_q19 : u167 q19 = some (.inl (cs 0, 8, .inl (fun _ => 0))) := by rw [hu167]; exact (va_up_ne _ _ (Nat.ne_of_gt l_q10_q19)).trans f_q19
  replace f_q22 : u167 q22 = some (.inr (4, [.int 0, .int 0, .int 0, .int (-1), .int 0, .long 0])) := by rw [hu167]; exact (va_up_ne _ _ (Nat.ne_of_gt l_q10_q22)).trans f_q22
  replace f_h0 : u167 h0 = some (.inr (8, [.ref q1, .ref q4, .ref q7, .ref q10, .ref q13, .ref q16, .ref q19, .ref q22])) := by rw [hu167]; exact (va_up_ne _ _ (Nat.ne_of_lt l_h0_q10)).trans f_h0
  replace f_q28 : u167 q28 = some (.inr (5, [.int 0, .int 0, .null, .null, .int 0, .int 0])) := by rw [hu167]; exact (va_up_ne _ _ (Nat.ne_of_gt l_q10_q28)).trans f_q28
  replace f_q35 : u167 q35 = some (.inl (cs 0, 12, .inl (fun _ => 0))) := by rw [hu167]; exact (va_up_ne _ _ (Nat.ne_of_gt l_q10_q35)).trans f_q35
  replace f_q32 : u167 q32 = some (.inr (0, [.ref q35, .int (-1)])) := by rw [hu167]; exact (va_up_ne _ _ (Nat.ne_of_gt l_q10_q32)).trans f_q32
  replace f_q42 : u167 q42 = some (.inl (cs 7, 12, .inr (.inr (.inr (.inr (fun _ => none)))))) := by rw [hu167]; exact (va_up_ne _ _ (Nat.ne_of_gt l_q10_q42)).trans f_q42
  replace f_q39 : u167 q39 = some (.inr (3, [.ref q42, .int (-1), .int 0])) := by rw [hu167]; exact (va_up_ne _ _ (Nat.ne_of_gt l_q10_q39)).trans f_q39
  replace f_q49 : u167 q49 = some (.inl (cs 0, 144, .inl (fun _ => 0))) := by rw [hu167]; exact (va_up_ne _ _ (Nat.ne_of_gt l_q10_q49)).trans f_q49
  replace f_q46 : u167 q46 = some (.inr (1, [.ref q49, .int (-1), .int 0])) := by rw [hu167]; exact (va_up_ne _ _ (Nat.ne_of_gt l_q10_q46)).trans f_q46
  replace f_q56 : u167 q56 = some (.inl (cs 8, 16, .inr (.inr (.inr (.inr (fun _ => none)))))) := by rw [hu167]; exact (va_up_ne _ _ (Nat.ne_of_gt l_q10_q56)).trans f_q56
  replace f_q53 : u167 q53 = some (.inr (2, [.ref q56, .int 0])) := by rw [hu167]; exact (va_up_ne _ _ (Nat.ne_of_gt l_q10_q53)).trans f_q53
  replace f_q62 : u167 q62 = some (.inr (5, [.int 0, .int 0, .null, .null, .int 0, .int 0])) := by rw [hu167]; exact (va_up_ne _ _ (Nat.ne_of_gt l_q10_q62)).trans f_q62
  replace f_q69 : u167 q69 = some (.inl (cs 0, 12, .inl (fun _ => 0))) := by rw [hu167]; exact (va_up_ne _ _ (Nat.ne_of_gt l_q10_q69)).trans f_q69
  replace f_q66 : u167 q66 = some (.inr (0, [.ref q69, .int (-1)])) := by rw [hu167]; exact (va_up_ne _ _ (Nat.ne_of_gt l_q10_q66)).trans f_q66
  replace f_q76 : u167 q76 = some (.inl (cs 7, 12, .inr (.inr (.inr (.inr (fun _ => none)))))) := by rw [hu167]; exact (va_up_ne _ _ (Nat.ne_of_gt l_q10_q76)).trans f_q76
  replace f_q73 : u167 q73 = some (.inr (3, [.ref q76, .int (-1), .int 0])) := by rw [hu167]; exact (va_up_ne _ _ (Nat.ne_of_gt l_q10_q73)).trans f_q73
  replace f_q83 : u167 q83 = some (.inl (cs 0, 144, .inl (fun _ => 0))) := by rw [hu167]; exact (va_up_ne _ _ (Nat.ne_of_gt l_q10_q83)).trans f_q83
  replace f_q80 : u167 q80 = some (.inr (1, [.ref q83, .int (-1), .int 0])) := by rw [hu167]; exact (va_up_ne _ _ (Nat.ne_of_gt l_q10_q80)).trans f_q80
  replace f_q90 : u167 q90 = some (.inl (cs 8, 16, .inr (.inr (.inr (.inr (fun _ => none)))))) := by rw [hu167]; exact (va_up_ne _ _ (Nat.ne_of_gt l_q10_q90)).trans f_q90
  replace f_q87 : u167 q87 = some (.inr (2, [.ref q90, .int 0])) := by rw [hu167]; exact (va_up_ne _ _ (Nat.ne_of_gt l_q10_q87)).trans f_q87
  replace f_q96 : u167 q96 = some (.inr (5, [.int 0, .int 0, .null, .null, .int 0, .int 0])) := by rw [hu167]; exact (va_up_ne _ _ (Nat.ne_of_gt l_q10_q96)).trans f_q96
  replace f_q103 : u167 q103 = some (.inl (cs 0, 12, .inl (fun _ => 0))) := by rw [hu167]; exact (va_up_ne _ _ (Nat.ne_of_gt l_q10_q103)).trans f_q103
  replace f_q100 : u167 q100 = some (.inr (0, [.ref q103, .int (-1)])) := by rw [hu167]; exact (va_up_ne _ _ (Nat.ne_of_gt l_q10_q100)).trans f_q100
  replace f_q110 : u167 q110 = some (.inl (cs 7, 12, .inr (.inr (.inr (.inr (fun _ => none)))))) := by rw [hu167]; exact (va_up_ne _ _ (Nat.ne_of_gt l_q10_q110)).trans f_q110
  replace f_q107 : u167 q107 = some (.inr (3, [.ref q110, .int (-1), .int 0])) := by rw [hu167]; exact (va_up_ne _ _ (Nat.ne_of_gt l_q10_q107)).trans f_q107
  replace f_q117 : u167 q117 = some (.inl (cs 0, 144, .inl (fun _ => 0))) := by rw [hu167]; exact (va_up_ne _ _ (Nat.ne_of_gt l_q10_q117)).trans f_q117
  replace f_q114 : u167 q114 = some (.inr (1, [.ref q117, .int (-1), .int 0])) := by rw [hu167]; exact (va_up_ne _ _ (Nat.ne_of_gt l_q10_q114)).trans f_q114
  replace f_q124 : u167 q124 = some (.inl (cs 8, 16, .inr (.inr (.inr (.inr (fun _ => none)))))) := by rw [hu167]; exact (va_up_ne _ _ (Nat.ne_of_gt l_q10_q124)).trans f_q124
  replace f_q121 : u167 q121 = some (.inr (2, [.ref q124, .int 0])) := by rw [hu167]; exact (va_up_ne _ _ (Nat.ne_of_gt l_q10_q121)).trans f_q121
  replace f_q130 : u167 q130 = some (.inr (5, [.int 0, .int 0, .null, .null, .int 0, .int 0])) := by rw [hu167]; exact (va_up_ne _ _ (Nat.ne_of_gt l_q10_q130)).trans f_q130
  replace f_q137 : u167 q137 = some (.inl (cs 0, 12, .inl (fun _ => 0))) := by rw [hu167]; exact (va_up_ne _ _ (Nat.ne_of_gt l_q10_q137)).trans f_q137
  replace f_q134 : u167 q134 = some (.inr (0, [.ref q137, .int (-1)])) := by rw [hu167]; exact (va_up_ne _ _ (Nat.ne_of_gt l_q10_q134)).trans f_q134
  replace f_q144 : u167 q144 = some (.inl (cs 7, 12, .inr (.inr (.inr (.inr (fun _ => none)))))) := by rw [hu167]; exact (va_up_ne _ _ (Nat.ne_of_gt l_q10_q144)).trans f_q144
  replace f_q141 : u167 q141 = some (.inr (3, [.ref q144, .int (-1), .int 0])) := by rw [hu167]; exact (va_up_ne _ _ (Nat.ne_of_gt l_q10_q141)).trans f_q141
  replace f_q151 : u167 q151 = some (.inl (cs 0, 144, .inl (fun _ => 0))) := by rw [hu167]; exact (va_up_ne _ _ (Nat.ne_of_gt l_q10_q151)).trans f_q151
  replace f_q148 : u167 q148 = some (.inr (1, [.ref q151, .int (-1), .int 0])) := by rw [hu167]; exact (va_up_ne _ _ (Nat.ne_of_gt l_q10_q148)).trans f_q148
  replace f_q158 : u167 q158 = some (.inl (cs 8, 16, .inr (.inr (.inr (.inr (fun _ => none)))))) := by rw [hu167]; exact (va_up_ne _ _ (Nat.ne_of_gt l_q10_q158)).trans f_q158
  replace f_q155 : u167 q155 = some (.inr (2, [.ref q158, .int 0])) := by rw [hu167]; exact (va_up_ne _ _ (Nat.ne_of_gt l_q10_q155)).trans f_q155
  replace f_q13 : u167 q13 = some (.inl (cs 6, 4, .inr (.inr (.inr (.inr (va_up (va_up (va_up (va_up (fun _ => none) 0 (some q53)) 1 (some q87)) 2 (some q121)) 3 (some q155))))))) := by rw [hu167]; exact (va_up_ne _ _ (Nat.ne_of_gt l_q10_q13)).trans f_q13
  replace f_q16 : u167 q16 = some (.inl (cs 0, 4, .inl (upd (upd (upd (upd (fun _ => 0) 0 1) 1 1) 2 1) 3 1))) := by rw [hu167]; exact (va_up_ne _ _ (Nat.ne_of_gt l_q10_q16)).trans f_q16
  replace f_q1 : u167 q1 = some (.inl (cs 2, 4, .inr (.inr (.inr (.inr (fun j => some (ad (10 + j)))))))) := by rw [hu167]; exact (va_up_ne _ _ (Nat.ne_of_lt l_q1_q10)).trans f_q1
  replace f_q4 : u167 q4 = some (.inl (cs 3, 4, .inr (.inr (.inr (.inr (fun j => some (ad (14 + j)))))))) := by rw [hu167]; exact (va_up_ne _ _ (Nat.ne_of_lt l_q4_q10)).trans f_q4
  replace f_q7 : u167 q7 = some (.inl (cs 4, 4, .inr (.inr (.inr (.inr (fun j => some (ad (22 + j)))))))) := by rw [hu167]; exact (va_up_ne _ _ (Nat.ne_of_lt l_q7_q10)).trans f_q7
  replace f_q10 : u167 q10 = some (.inl (cs 5, 4, .inr (.inr (.inr (.inr (fun j => some (ad (30 + j)))))))) := by rw [hu167]; exact va_up_self _ _ _
  rw [← gx_upid f_q13] at hF
  have hF := hF.arq (g := fun j => some (ad (38 + j))) (fun j hj => by
    rw [had]; match j, hj with
    | 0, _ => rfl
    | 1, _ => rfl
    | 2, _ => rfl
    | 3, _ => rfl
    | j + 4, h => exact absurd h (by omega))
  obtain ⟨u168, hu168⟩ : ∃ y : fW, y = va_up u167 q13 (some (.inl (cs 6, 4, .inr (.inr (.inr (.inr (fun j => some (ad (38 + j))))))))) := ⟨_, rfl⟩
  rw [← hu168] at hF
  replace f_q19 : u168 q19 = some (.inl (cs 0, 8, .inl (fun _ => 0))) := by rw [hu168]; exact (va_up_ne _ _ (Nat.ne_of_gt l_q13_q19)).trans f_q19
  replace f_q22 : u168 q22 = some (.inr (4, [.int 0, .int 0, .int 0, .int (-1), .int 0, .long 0])) := by rw [hu168]; exact (va_up_ne _ _ (Nat.ne_of_gt l_q13_q22)).trans f_q22
  replace f_h0 : u168 h0 = some (.inr (8, [.ref q1, .ref q4, .ref q7, .ref q10, .ref q13, .ref q16, .ref q19, .ref q22])) := by rw [hu168]; exact (va_up_ne _ _ (Nat.ne_of_lt l_h0_q13)).trans f_h0
  replace f_q28 : u168 q28 = some (.inr (5, [.int 0, .int 0, .null, .null, .int 0, .int 0])) := by rw [hu168]; exact (va_up_ne _ _ (Nat.ne_of_gt l_q13_q28)).trans f_q28
  replace f_q35 : u168 q35 = some (.inl (cs 0, 12, .inl (fun _ => 0))) := by rw [hu168]; exact (va_up_ne _ _ (Nat.ne_of_gt l_q13_q35)).trans f_q35
  replace f_q32 : u168 q32 = some (.inr (0, [.ref q35, .int (-1)])) := by rw [hu168]; exact (va_up_ne _ _ (Nat.ne_of_gt l_q13_q32)).trans f_q32
  replace f_q42 : u168 q42 = some (.inl (cs 7, 12, .inr (.inr (.inr (.inr (fun _ => none)))))) := by rw [hu168]; exact (va_up_ne _ _ (Nat.ne_of_gt l_q13_q42)).trans f_q42
  replace f_q39 : u168 q39 = some (.inr (3, [.ref q42, .int (-1), .int 0])) := by rw [hu168]; exact (va_up_ne _ _ (Nat.ne_of_gt l_q13_q39)).trans f_q39
  replace f_q49 : u168 q49 = some (.inl (cs 0, 144, .inl (fun _ => 0))) := by rw [hu168]; exact (va_up_ne _ _ (Nat.ne_of_gt l_q13_q49)).trans f_q49
  replace f_q46 : u168 q46 = some (.inr (1, [.ref q49, .int (-1), .int 0])) := by rw [hu168]; exact (va_up_ne _ _ (Nat.ne_of_gt l_q13_q46)).trans f_q46
  replace f_q56 : u168 q56 = some (.inl (cs 8, 16, .inr (.inr (.inr (.inr (fun _ => none)))))) := by rw [hu168]; exact (va_up_ne _ _ (Nat.ne_of_gt l_q13_q56)).trans f_q56
  replace f_q53 : u168 q53 = some (.inr (2, [.ref q56, .int 0])) := by rw [hu168]; exact (va_up_ne _ _ (Nat.ne_of_gt l_q13_q53)).trans f_q53
  replace f_q62 : u168 q62 = some (.inr (5, [.int 0, .int 0, .null, .null, .int 0, .int 0])) := by rw [hu168]; exact (va_up_ne _ _ (Nat.ne_of_gt l_q13_q62)).trans f_q62
  replace f_q69 : u168 q69 = some (.inl (cs 0, 12, .inl (fun _ => 0))) := by rw [hu168]; exact (va_up_ne _ _ (Nat.ne_of_gt l_q13_q69)).trans f_q69
  replace f_q66 : u168 q66 = some (.inr (0, [.ref q69, .int (-1)])) := by rw [hu168]; exact (va_up_ne _ _ (Nat.ne_of_gt l_q13_q66)).trans f_q66
  replace f_q76 : u168 q76 = some (.inl (cs 7, 12, .inr (.inr (.inr (.inr (fun _ => none)))))) := by rw [hu168]; exact (va_up_ne _ _ (Nat.ne_of_gt l_q13_q76)).trans f_q76
  replace f_q73 : u168 q73 = some (.inr (3, [.ref q76, .int (-1), .int 0])) := by rw [hu168]; exact (va_up_ne _ _ (Nat.ne_of_gt l_q13_q73)).trans f_q73
  replace f_q83 : u168 q83 = some (.inl (cs 0, 144, .inl (fun _ => 0))) := by rw [hu168]; exact (va_up_ne _ _ (Nat.ne_of_gt l_q13_q83)).trans f_q83
  replace f_q80 : u168 q80 = some (.inr (1, [.ref q83, .int (-1), .int 0])) := by rw [hu168]; exact (va_up_ne _ _ (Nat.ne_of_gt l_q13_q80)).trans f_q80
  replace f_q90 : u168 q90 = some (.inl (cs 8, 16, .inr (.inr (.inr (.inr (fun _ => none)))))) := by rw [hu168]; exact (va_up_ne _ _ (Nat.ne_of_gt l_q13_q90)).trans f_q90
  replace f_q87 : u168 q87 = some (.inr (2, [.ref q90, .int 0])) := by rw [hu168]; exact (va_up_ne _ _ (Nat.ne_of_gt l_q13_q87)).trans f_q87
  replace f_q96 : u168 q96 = some (.inr (5, [.int 0, .int 0, .null, .null, .int 0, .int 0])) := by rw [hu168]; exact (va_up_ne _ _ (Nat.ne_of_gt l_q13_q96)).trans f_q96
  replace f_q103 : u168 q103 = some (.inl (cs 0, 12, .inl (fun _ => 0))) := by rw [hu168]; exact (va_up_ne _ _ (Nat.ne_of_gt l_q13_q103)).trans f_q103
  replace f_q100 : u168 q100 = some (.inr (0, [.ref q103, .int (-1)])) := by rw [hu168]; exact (va_up_ne _ _ (Nat.ne_of_gt l_q13_q100)).trans f_q100
  replace f_q110 : u168 q110 = some (.inl (cs 7, 12, .inr (.inr (.inr (.inr (fun _ => none)))))) := by rw [hu168]; exact (va_up_ne _ _ (Nat.ne_of_gt l_q13_q110)).trans f_q110
  replace f_q107 : u168 q107 = some (.inr (3, [.ref q110, .int (-1), .int 0])) := by rw [hu168]; exact (va_up_ne _ _ (Nat.ne_of_gt l_q13_q107)).trans f_q107
  replace f_q117 : u168 q117 = some (.inl (cs 0, 144, .inl (fun _ => 0))) := by rw [hu168]; exact (va_up_ne _ _ (Nat.ne_of_gt l_q13_q117)).trans f_q117
  replace f_q114 : u168 q114 = some (.inr (1, [.ref q117, .int (-1), .int 0])) := by rw [hu168]; exact (va_up_ne _ _ (Nat.ne_of_gt l_q13_q114)).trans f_q114
  replace f_q124 : u168 q124 = some (.inl (cs 8, 16, .inr (.inr (.inr (.inr (fun _ => none)))))) := by rw [hu168]; exact (va_up_ne _ _ (Nat.ne_of_gt l_q13_q124)).trans f_q124
  replace f_q121 : u168 q121 = some (.inr (2, [.ref q124, .int 0])) := by rw [hu168]; exact (va_up_ne _ _ (Nat.ne_of_gt l_q13_q121)).trans f_q121
  replace f_q130 : u168 q130 = some (.inr (5, [.int 0, .int 0, .null, .null, .int 0, .int 0])) := by rw [hu168]; exact (va_up_ne _ _ (Nat.ne_of_gt l_q13_q130)).trans f_q130
  replace f_q137 : u168 q137 = some (.inl (cs 0, 12, .inl (fun _ => 0))) := by rw [hu168]; exact (va_up_ne _ _ (Nat.ne_of_gt l_q13_q137)).trans f_q137
  replace f_q134 : u168 q134 = some (.inr (0, [.ref q137, .int (-1)])) := by rw [hu168]; exact (va_up_ne _ _ (Nat.ne_of_gt l_q13_q134)).trans f_q134
  replace f_q144 : u168 q144 = some (.inl (cs 7, 12, .inr (.inr (.inr (.inr (fun _ => none)))))) := by rw [hu168]; exact (va_up_ne _ _ (Nat.ne_of_gt l_q13_q144)).trans f_q144
  replace f_q141 : u168 q141 = some (.inr (3, [.ref q144, .int (-1), .int 0])) := by rw [hu168]; exact (va_up_ne _ _ (Nat.ne_of_gt l_q13_q141)).trans f_q141
  replace f_q151 : u168 q151 = some (.inl (cs 0, 144, .inl (fun _ => 0))) := by rw [hu168]; exact (va_up_ne _ _ (Nat.ne_of_gt l_q13_q151)).trans f_q151
  replace f_q148 : u168 q148 = some (.inr (1, [.ref q151, .int (-1), .int 0])) := by rw [hu168]; exact (va_up_ne _ _ (Nat.ne_of_gt l_q13_q148)).trans f_q148
  replace f_q158 : u168 q158 = some (.inl (cs 8, 16, .inr (.inr (.inr (.inr (fun _ => none)))))) := by rw [hu168]; exact (va_up_ne _ _ (Nat.ne_of_gt l_q13_q158)).trans f_q158
  replace f_q155 : u168 q155 = some (.inr (2, [.ref q158, .int 0])) := by rw [hu168]; exact (va_up_ne _ _ (Nat.ne_of_gt l_q13_q155)).trans f_q155
  replace f_q16 : u168 q16 = some (.inl (cs 0, 4, .inl (upd (upd (upd (upd (fun _ => 0) 0 1) 1 1) 2 1) 3 1))) := by rw [hu168]; exact (va_up_ne _ _ (Nat.ne_of_gt l_q13_q16)).trans f_q16
  replace f_q1 : u168 q1 = some (.inl (cs 2, 4, .inr (.inr (.inr (.inr (fun j => some (ad (10 + j)))))))) := by rw [hu168]; exact (va_up_ne _ _ (Nat.ne_of_lt l_q1_q13)).trans f_q1
  replace f_q4 : u168 q4 = some (.inl (cs 3, 4, .inr (.inr (.inr (.inr (fun j => some (ad (14 + j)))))))) := by rw [hu168]; exact (va_up_ne _ _ (Nat.ne_of_lt l_q4_q13)).trans f_q4
  replace f_q7 : u168 q7 = some (.inl (cs 4, 4, .inr (.inr (.inr (.inr (fun j => some (ad (22 + j)))))))) := by rw [hu168]; exact (va_up_ne _ _ (Nat.ne_of_lt l_q7_q13)).trans f_q7
  replace f_q10 : u168 q10 = some (.inl (cs 5, 4, .inr (.inr (.inr (.inr (fun j => some (ad (30 + j)))))))) := by rw [hu168]; exact (va_up_ne _ _ (Nat.ne_of_lt l_q10_q13)).trans f_q10
  replace f_q13 : u168 q13 = some (.inl (cs 6, 4, .inr (.inr (.inr (.inr (fun j => some (ad (38 + j)))))))) := by rw [hu168]; exact va_up_self _ _ _
  rw [← gx_upid f_q16] at hF
  have hF := hF.arr (g := fun _ => 1) (fun j hj => by
    match j, hj with
    | 0, _ => rfl
    | 1, _ => rfl
    | 2, _ => rfl
    | 3, _ => rfl
    | j + 4, h => exact absurd h (by omega))
  obtain ⟨u169, hu169⟩ : ∃ y : fW, y = va_up u168 q16 (some (.inl (cs 0, 4, .inl (fun _ => 1)))) := ⟨_, rfl⟩
  rw [← hu169] at hF
  replace f_q19 : u169 q19 = some (.inl (cs 0, 8, .inl (fun _ => 0))) := by rw [hu169]; exact (va_up_ne _ _ (Nat.ne_of_gt l_q16_q19)).trans f_q19
  replace f_q22 : u169 q22 = some (.inr (4, [.int 0, .int 0, .int 0, .int (-1), .int 0, .long 0])) := by rw [hu169]; exact (va_up_ne _ _ (Nat.ne_of_gt l_q16_q22)).trans f_q22
  replace f_h0 : u169 h0 = some (.inr (8, [.ref q1, .ref q4, .ref q7, .ref q10, .ref q13, .ref q16, .ref q19, .ref q22])) := by rw [hu169]; exact (va_up_ne _ _ (Nat.ne_of_lt l_h0_q16)).trans f_h0
  replace f_q28 : u169 q28 = some (.inr (5, [.int 0, .int 0, .null, .null, .int 0, .int 0])) := by rw [hu169]; exact (va_up_ne _ _ (Nat.ne_of_gt l_q16_q28)).trans f_q28
  replace f_q35 : u169 q35 = some (.inl (cs 0, 12, .inl (fun _ => 0))) := by rw [hu169]; exact (va_up_ne _ _ (Nat.ne_of_gt l_q16_q35)).trans f_q35
  replace f_q32 : u169 q32 = some (.inr (0, [.ref q35, .int (-1)])) := by rw [hu169]; exact (va_up_ne _ _ (Nat.ne_of_gt l_q16_q32)).trans f_q32
  replace f_q42 : u169 q42 = some (.inl (cs 7, 12, .inr (.inr (.inr (.inr (fun _ => none)))))) := by rw [hu169]; exact (va_up_ne _ _ (Nat.ne_of_gt l_q16_q42)).trans f_q42
  replace f_q39 : u169 q39 = some (.inr (3, [.ref q42, .int (-1), .int 0])) := by rw [hu169]; exact (va_up_ne _ _ (Nat.ne_of_gt l_q16_q39)).trans f_q39
  replace f_q49 : u169 q49 = some (.inl (cs 0, 144, .inl (fun _ => 0))) := by rw [hu169]; exact (va_up_ne _ _ (Nat.ne_of_gt l_q16_q49)).trans f_q49
  replace f_q46 : u169 q46 = some (.inr (1, [.ref q49, .int (-1), .int 0])) := by rw [hu169]; exact (va_up_ne _ _ (Nat.ne_of_gt l_q16_q46)).trans f_q46
  replace f_q56 : u169 q56 = some (.inl (cs 8, 16, .inr (.inr (.inr (.inr (fun _ => none)))))) := by rw [hu169]; exact (va_up_ne _ _ (Nat.ne_of_gt l_q16_q56)).trans f_q56
  replace f_q53 : u169 q53 = some (.inr (2, [.ref q56, .int 0])) := by rw [hu169]; exact (va_up_ne _ _ (Nat.ne_of_gt l_q16_q53)).trans f_q53
  replace f_q62 : u169 q62 = some (.inr (5, [.int 0, .int 0, .null, .null, .int 0, .int 0])) := by rw [hu169]; exact (va_up_ne _ _ (Nat.ne_of_gt l_q16_q62)).trans f_q62
  replace f_q69 : u169 q69 = some (.inl (cs 0, 12, .inl (fun _ => 0))) := by rw [hu169]; exact (va_up_ne _ _ (Nat.ne_of_gt l_q16_q69)).trans f_q69
  replace f_q66 : u169 q66 = some (.inr (0, [.ref q69, .int (-1)])) := by rw [hu169]; exact (va_up_ne _ _ (Nat.ne_of_gt l_q16_q66)).trans f_q66
  replace f_q76 : u169 q76 = some (.inl (cs 7, 12, .inr (.inr (.inr (.inr (fun _ => none)))))) := by rw [hu169]; exact (va_up_ne _ _ (Nat.ne_of_gt l_q16_q76)).trans f_q76
  replace f_q73 : u169 q73 = some (.inr (3, [.ref q76, .int (-1), .int 0])) := by rw [hu169]; exact (va_up_ne _ _ (Nat.ne_of_gt l_q16_q73)).trans f_q73
  replace f_q83 : u169 q83 = some (.inl (cs 0, 144, .inl (fun _ => 0))) := by rw [hu169]; exact (va_up_ne _ _ (Nat.ne_of_gt l_q16_q83)).trans f_q83
  replace f_q80 : u169 q80 = some (.inr (1, [.ref q83, .int (-1), .int 0])) := by rw [hu169]; exact (va_up_ne _ _ (Nat.ne_of_gt l_q16_q80)).trans f_q80
  replace f_q90 : u169 q90 = some (.inl (cs 8, 16, .inr (.inr (.inr (.inr (fun _ => none)))))) := by rw [hu169]; exact (va_up_ne _ _ (Nat.ne_of_gt l_q16_q90)).trans f_q90
  replace f_q87 : u169 q87 = some (.inr (2, [.ref q90, .int 0])) := by rw [hu169]; exact (va_up_ne _ _ (Nat.ne_of_gt l_q16_q87)).trans f_q87
  replace f_q96 : u169 q96 = some (.inr (5, [.int 0, .int 0, .null, .null, .int 0, .int 0])) := by rw [hu169]; exact (va_up_ne _ _ (Nat.ne_of_gt l_q16_q96)).trans f_q96
  replace f_q103 : u169 q103 = some (.inl (cs 0, 12, .inl (fun _ => 0))) := by rw [hu169]; exact (va_up_ne _ _ (Nat.ne_of_gt l_q16_q103)).trans f_q103
  replace f_q100 : u169 q100 = some (.inr (0, [.ref q103, .int (-1)])) := by rw [hu169]; exact (va_up_ne _ _ (Nat.ne_of_gt l_q16_q100)).trans f_q100
  replace f_q110 : u169 q110 = some (.inl (cs 7, 12, .inr (.inr (.inr (.inr (fun _ => none)))))) := by rw [hu169]; exact (va_up_ne _ _ (Nat.ne_of_gt l_q16_q110)).trans f_q110
  replace f_q107 : u169 q107 = some (.inr (3, [.ref q110, .int (-1), .int 0])) := by rw [hu169]; exact (va_up_ne _ _ (Nat.ne_of_gt l_q16_q107)).trans f_q107
  replace f_q117 : u169 q117 = some (.inl (cs 0, 144, .inl (fun _ => 0))) := by rw [hu169]; exact (va_up_ne _ _ (Nat.ne_of_gt l_q16_q117)).trans f_q117
  replace f_q114 : u169 q114 = some (.inr (1, [.ref q117, .int (-1), .int 0])) := by rw [hu169]; exact (va_up_ne _ _ (Nat.ne_of_gt l_q16_q114)).trans f_q114
  replace f_q124 : u169 q124 = some (.inl (cs 8, 16, .inr (.inr (.inr (.inr (fun _ => none)))))) := by rw [hu169]; exact (va_up_ne _ _ (Nat.ne_of_gt l_q16_q124)).trans f_q124
  replace f_q121 : u169 q121 = some (.inr (2, [.ref q124, .int 0])) := by rw [hu169]; exact (va_up_ne _ _ (Nat.ne_of_gt l_q16_q121)).trans f_q121
  replace f_q130 : u169 q130 = some (.inr (5, [.int 0, .int 0, .null, .null, .int 0, .int 0])) := by rw [hu169]; exact (va_up_ne _ _ (Nat.ne_of_gt l_q16_q130)).trans f_q130
  replace f_q137 : u169 q137 = some (.inl (cs 0, 12, .inl (fun _ => 0))) := by rw [hu169]; exact (va_up_ne _ _ (Nat.ne_of_gt l_q16_q137)).trans f_q137
  replace f_q134 : u169 q134 = some (.inr (0, [.ref q137, .int (-1)])) := by rw [hu169]; exact (va_up_ne _ _ (Nat.ne_of_gt l_q16_q134)).trans f_q134
  replace f_q144 : u169 q144 = some (.inl (cs 7, 12, .inr (.inr (.inr (.inr (fun _ => none)))))) := by rw [hu169]; exact (va_up_ne _ _ (Nat.ne_of_gt l_q16_q144)).trans f_q144
  replace f_q141 : u169 q141 = some (.inr (3, [.ref q144, .int (-1), .int 0])) := by rw [hu169]; exact (va_up_ne _ _ (Nat.ne_of_gt l_q16_q141)).trans f_q141
  replace f_q151 : u169 q151 = some (.inl (cs 0, 144, .inl (fun _ => 0))) := by rw [hu169]; exact (va_up_ne _ _ (Nat.ne_of_gt l_q16_q151)).trans f_q151
  replace f_q148 : u169 q148 = some (.inr (1, [.ref q151, .int (-1), .int 0])) := by rw [hu169]; exact (va_up_ne _ _ (Nat.ne_of_gt l_q16_q148)).trans f_q148
  replace f_q158 : u169 q158 = some (.inl (cs 8, 16, .inr (.inr (.inr (.inr (fun _ => none)))))) := by rw [hu169]; exact (va_up_ne _ _ (Nat.ne_of_gt l_q16_q158)).trans f_q158
  replace f_q155 : u169 q155 = some (.inr (2, [.ref q158, .int 0])) := by rw [hu169]; exact (va_up_ne _ _ (Nat.ne_of_gt l_q16_q155)).trans f_q155
  replace f_q1 : u169 q1 = some (.inl (cs 2, 4, .inr (.inr (.inr (.inr (fun j => some (ad (10 + j)))))))) := by rw [hu169]; exact (va_up_ne _ _ (Nat.ne_of_lt l_q1_q16)).trans f_q1
  replace f_q4 : u169 q4 = some (.inl (cs 3, 4, .inr (.inr (.inr (.inr (fun j => some (ad (14 + j)))))))) := by rw [hu169]; exact (va_up_ne _ _ (Nat.ne_of_lt l_q4_q16)).trans f_q4
  replace f_q7 : u169 q7 = some (.inl (cs 4, 4, .inr (.inr (.inr (.inr (fun j => some (ad (22 + j)))))))) := by rw [hu169]; exact (va_up_ne _ _ (Nat.ne_of_lt l_q7_q16)).trans f_q7
  replace f_q10 : u169 q10 = some (.inl (cs 5, 4, .inr (.inr (.inr (.inr (fun j => some (ad (30 + j)))))))) := by rw [hu169]; exact (va_up_ne _ _ (Nat.ne_of_lt l_q10_q16)).trans f_q10
  replace f_q13 : u169 q13 = some (.inl (cs 6, 4, .inr (.inr (.inr (.inr (fun j => some (ad (38 + j)))))))) := by rw [hu169]; exact (va_up_ne _ _ (Nat.ne_of_lt l_q13_q16)).trans f_q13
  replace f_q16 : u169 q16 = some (.inl (cs 0, 4, .inl (fun _ => 1))) := by rw [hu169]; exact va_up_self _ _ _
  refine fw_vret X hF hS ?_ (Nat.le_of_ble_eq_true rfl) (Nat.le_of_ble_eq_true rfl) dX8_init_155
  refine ⟨rfl, ad, fun _ _ => none, by rw [had]; rfl, ?_⟩
  exact ⟨hai,
      by rw [had]; exact f_h0,
      by rw [show ad 1 = q1 by rw [had]; rfl]; exact f_q1,
      by rw [show ad 2 = q4 by rw [had]; rfl]; exact f_q4,
      by rw [show ad 3 = q7 by rw [had]; rfl]; exact f_q7,
      by rw [show ad 4 = q10 by rw [had]; rfl]; exact f_q10,
      by rw [show ad 5 = q13 by rw [had]; rfl]; exact f_q13,
      by rw [had]; exact f_q16,
      by rw [had]; exact f_q19,
      by rw [had]; exact f_q22,
      fun i hi => by
        rw [had]
        match i, hi with
        | 0, _ => exact f_q28
        | 1, _ => exact f_q62
        | 2, _ => exact f_q96
        | 3, _ => exact f_q130
        | i + 4, h => exact absurd h (by omega),
      fun i hi => by
        rw [had]
        match i, hi with
        | 0, _ => exact f_q32
        | 1, _ => exact f_q66
        | 2, _ => exact f_q100
        | 3, _ => exact f_q134
        | i + 4, h => exact absurd h (by omega),
      fun i hi => by
        rw [had]
        match i, hi with
        | 0, _ => exact f_q35
        | 1, _ => exact f_q69
        | 2, _ => exact f_q103
        | 3, _ => exact f_q137
        | i + 4, h => exact absurd h (by omega),
      fun i hi => by
        rw [had]
        match i, hi with
        | 0, _ => exact f_q39
        | 1, _ => exact f_q73
        | 2, _ => exact f_q107
        | 3, _ => exact f_q141
        | i + 4, h => exact absurd h (by omega),
      fun i hi => by
        rw [had]
        match i, hi with
        | 0, _ => exact f_q42
        | 1, _ => exact f_q76
        | 2, _ => exact f_q110
        | 3, _ => exact f_q144
        | i + 4, h => exact absurd h (by omega),
      fun i hi => by
        rw [had]
        match i, hi with
        | 0, _ => exact f_q46
        | 1, _ => exact f_q80
        | 2, _ => exact f_q114
        | 3, _ => exact f_q148
        | i + 4, h => exact absurd h (by omega),
      fun i hi => by
        rw [had]
        match i, hi with
        | 0, _ => exact f_q49
        | 1, _ => exact f_q83
        | 2, _ => exact f_q117
        | 3, _ => exact f_q151
        | i + 4, h => exact absurd h (by omega),
      fun i hi => by
        rw [had]
        match i, hi with
        | 0, _ => exact f_q53
        | 1, _ => exact f_q87
        | 2, _ => exact f_q121
        | 3, _ => exact f_q155
        | i + 4, h => exact absurd h (by omega),
      fun i hi => by
        rw [had]
        match i, hi with
        | 0, _ => exact f_q56
        | 1, _ => exact f_q90
        | 2, _ => exact f_q124
        | 3, _ => exact f_q158
        | i + 4, h => exact absurd h (by omega),
      (fun q x hq => by cases hq),
      (fun j k hj hk => absurd hk (Nat.not_lt_zero _))⟩
