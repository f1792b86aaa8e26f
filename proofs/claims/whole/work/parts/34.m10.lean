theorem am_inj {am : Nat → Nat} (aL perm : List Nat) (h1 : ∀ i j, i < j → j < 29 → aL.getD i 0 < aL.getD j 0) (hp : (∀ t, t < 29 → perm.getD t 0 < 29) ∧ ∀ t, t < 29 → ∀ t', t' < 29 → perm.getD t 0 = perm.getD t' 0 → t = t') (h : ∀ t, t < 29 → am t = aL.getD (perm.getD t 0) 0) : amI am := by
  intro t t' ht ht' e
  rw [h t ht, h t' ht'] at e
  refine hp.2 t ht t' ht' ?_
  rcases Nat.lt_trichotomy (perm.getD t 0) (perm.getD t' 0) with z | z | z
  · have := h1 _ _ z (hp.1 t' ht'); omega
  · exact z
  · have := h1 _ _ z (hp.1 t ht); omega
theorem liv00 (q : Nat) : ¬ liv T00 q := by
  rintro (⟨i, _, h⟩ | ⟨i, j, _, h, _⟩)
  · rcases h with h | h <;> cases h
  · exact absurd h (Nat.not_lt_zero _)
theorem MR00 {M : Nat → Nat → Int32} (z : ∀ k, k = 0 ∨ k = 1 ∨ k = 3 ∨ k = 9 ∨ k = 11 ∨ k = 14 ∨ k = 15 ∨ k = 16 ∨ k = 17 ∨ k = 25 → ∀ i, M k i = 0) (h2 : ∀ i, i < 8 → M 2 i = -1) (h8 : ∀ i, i < 4 → M 8 i = -1) (h10 : ∀ i, i < 4 → M 10 i = -1) (h13 : ∀ i, i < 4 → M 13 i = -1) : MR (fun _ => 0) T00 M :=
  ⟨fun i hi => ⟨z 0 (by omega) i, z 1 (by omega) i, h2 _ (by omega), h2 _ (by omega), z 3 (by omega) i, fun e => absurd (show (0 : Int32) = 2 from e) (by decide)⟩, fun q hq => absurd hq (liv00 q), fun q _ hq => absurd hq (liv00 q), fun i hi => ⟨h8 i hi, fun j _ => z 9 (by omega) _⟩, fun i hi => ⟨h10 i hi, z 11 (by omega) i, fun j hj => absurd hj (Nat.not_lt_zero _)⟩, fun i hi => ⟨h13 i hi, z 14 (by omega) i, fun r c _ _ => z 15 (by omega) _⟩, fun i _ => z 16 (by omega) i, fun j _ => ⟨z 17 (by omega) j, fun k hk => absurd hk (Nat.not_lt_zero _)⟩, fun r _ => z 25 (by omega) r⟩
set_option maxHeartbeats 4000000 in
set_option maxRecDepth 100000 in
theorem c_X9_init (l : Launch) (D : va_G) (cs : Nat → ClassId) (w : fW) (sz : Nat) (h0 : Nat) (f_h0 : w h0 = some (.inr (9, [.null, .null, .null, .null, .null, .null, .null, .null, .null, .null, .null, .null, .null, .null, .null, .null, .null, .null, .null, .int 0, .int 0, .int 0, .int 0, .int 0, .long 0, .null, .int 0, .int 0]))) : gM l bs_B nw_B D cls10 (tyl cs) yX9_init cX9_init 2 none 1 20 20 2440 w sz [.ref h0] (fun v w' => v = none ∧ ∃ am, am 28 = h0 ∧ Sm cs am T00 w') := by
  refine gM.of (by decide +kernel) (Nat.le_of_ble_eq_true rfl) (fun p e s m below meth c A ls X hsz hnm hF hS hl => ?_)
  have hx := X.1
  have hb := X.2.1
  have hl : lv_has ls 2 [(0, .ref h0)] := hl
  refine lv_aload_n hx hb dX9_init_0 rfl (lv_at hl 0 rfl) ?_
  refine W.objInit hx hb X.2.2.2.1 (X.2.2.2.2.1 _ wm_478) (X.2.2.2.2.1 _ wm_42) (X.2.2.2.2.1 _ wm_43) rfl (by rw [X.2.2.1]; exact hl.1) rfl dX9_init_1 (Nat.le_of_ble_eq_true rfl) (Nat.le_of_ble_eq_true rfl) ?_
  refine W.eq (g2 := F0 m 4 ls []) rfl ?_
  refine lv_aload_n hx hb dX9_init_4 rfl (lv_at hl 0 rfl) ?_
  refine lv_iconst (v := 4) hx hb dX9_init_5 (by decide) ?_
  have m_h0 := hF.lt f_h0
  refine fw_newa X hF hS (atype := .boolean) wm_564 rfl (fun _ h => by cases h) 1 rfl (N' := 4) (a0 := (4, .inl (fun _ => 0))) rfl (by decide) (by decide) (by decide) (Nat.le_of_ble_eq_true rfl) (Nat.le_of_ble_eq_true rfl) dX9_init_6 (fun q1 H nq1 zq1 zzq1 hF hS => ?_)
  have l_h0_q1 : h0 < q1 := Nat.lt_of_lt_of_le m_h0 (Nat.le_of_eq zq1.symm)
  clear m_h0
  have hF : fw_P D cls10 A (va_up w q1 (some (.inl (cs 1, 4, .inl (fun _ => 0))))) H := hF
  obtain ⟨u2, hu2⟩ : ∃ y : fW, y = va_up w q1 (some (.inl (cs 1, 4, .inl (fun _ => 0)))) := ⟨_, rfl⟩
  rw [← hu2] at hF
  replace f_h0 : u2 h0 = some (.inr (9, [.null, .null, .null, .null, .null, .null, .null, .null, .null, .null, .null, .null, .null, .null, .null, .null, .null, .null, .null, .int 0, .int 0, .int 0, .int 0, .int 0, .long 0, .null, .int 0, .int 0])) := by rw [hu2]; exact (va_up_ne _ _ (Nat.ne_of_lt l_h0_q1)).trans f_h0
  have f_q1 : u2 q1 = some (.inl (cs 1, 4, .inl (fun _ => 0))) := by rw [hu2]; exact va_up_self _ _ _
  refine fw_putF X gC_ok hF hS f_h0 rfl 0 (by decide) wm_479 rfl hnm rfl (tf := .array .boolean) (by decide +kernel) rfl rfl (Nat.le_of_ble_eq_true rfl) dX9_init_8 (fun H locs hF hS => ?_)
  have hF : fw_P D cls10 A (va_up u2 h0 (some (.inr (9, [.ref q1, .null, .null, .null, .null, .null, .null, .null, .null, .null, .null, .null, .null, .null, .null, .null, .null, .null, .null, .int 0, .int 0, .int 0, .int 0, .int 0, .long 0, .null, .int 0, .int 0])))) H := hF
  obtain ⟨u3, hu3⟩ : ∃ y : fW, y = va_up u2 h0 (some (.inr (9, [.ref q1, .null, .null, .null, .null, .null, .null, .null, .null, .null, .null, .null, .null, .null, .null, .null, .null, .null, .null, .int 0, .int 0, .int 0, .int 0, .int 0, .long 0, .null, .int 0, .int 0]))) := ⟨_, rfl⟩
  rw [← hu3] at hF
  replace f_q1 : u3 q1 = some (.inl (cs 1, 4, .inl (fun _ => 0))) := by rw [hu3]; exact (va_up_ne _ _ (Nat.ne_of_gt l_h0_q1)).trans f_q1
  replace f_h0 : u3 h0 = some (.inr (9, [.ref q1, .null, .null, .null, .null, .null, .null, .null, .null, .null, .null, .null, .null, .null, .null, .null, .null, .null, .null, .int 0, .int 0, .int 0, .int 0, .int 0, .long 0, .null, .int 0, .int 0])) := by rw [hu3]; exact va_up_self _ _ _
  refine lv_aload_n hx hb dX9_init_11 rfl (lv_at hl 0 rfl) ?_
  refine lv_iconst (v := 4) hx hb dX9_init_12 (by decide) ?_
  have m_q1 := hF.lt f_q1
  have m_h0 := hF.lt f_h0
  refine fw_newa X hF hS (atype := .int) wm_85 rfl (fun _ h => by cases h) 0 rfl (N' := 4) (a0 := (4, .inl (fun _ => 0))) rfl (by decide) (by decide) (by decide) (Nat.le_of_ble_eq_true rfl) (Nat.le_of_ble_eq_true rfl) dX9_init_13 (fun q4 H nq4 zq4 zzq4 hF hS => ?_)
  have l_q1_q4 : q1 < q4 := Nat.lt_of_lt_of_le m_q1 (Nat.le_of_eq zq4.symm)
  have l_h0_q4 : h0 < q4 := Nat.lt_of_lt_of_le m_h0 (Nat.le_of_eq zq4.symm)
  clear m_q1 m_h0
  have hF : fw_P D cls10 A (va_up u3 q4 (some (.inl (cs 0, 4, .inl (fun _ => 0))))) H := hF
  obtain ⟨u5, hu5⟩ : ∃ y : fW, y = va_up u3 q4 (some (.inl (cs 0, 4, .inl (fun _ => 0)))) := ⟨_, rfl⟩
  rw [← hu5] at hF
  replace f_q1 : u5 q1 = some (.inl (cs 1, 4, .inl (fun _ => 0))) := by rw [hu5]; exact (va_up_ne _ _ (Nat.ne_of_lt l_q1_q4)).trans f_q1
  replace f_h0 : u5 h0 = some (.inr (9, [.ref q1, .null, .null, .null, .null, .null, .null, .null, .null, .null, .null, .null, .null, .null, .null, .null, .null, .null, .null, .int 0, .int 0, .int 0, .int 0, .int 0, .long 0, .null, .int 0, .int 0])) := by rw [hu5]; exact (va_up_ne _ _ (Nat.ne_of_lt l_h0_q4)).trans f_h0
  have f_q4 : u5 q4 = some (.inl (cs 0, 4, .inl (fun _ => 0))) := by rw [hu5]; exact va_up_self _ _ _
  refine fw_putF X gC_ok hF hS f_h0 rfl 1 (by decide) wm_480 rfl hnm rfl (tf := .array .int) (by decide +kernel) rfl rfl (Nat.le_of_ble_eq_true rfl) dX9_init_15 (fun H locs hF hS => ?_)
  have hF : fw_P D cls10 A (va_up u5 h0 (some (.inr (9, [.ref q1, .ref q4, .null, .null, .null, .null, .null, .null, .null, .null, .null, .null, .null, .null, .null, .null, .null, .null, .null, .int 0, .int 0, .int 0, .int 0, .int 0, .long 0, .null, .int 0, .int 0])))) H := hF
  obtain ⟨u6, hu6⟩ : ∃ y : fW, y = va_up u5 h0 (some (.inr (9, [.ref q1, .ref q4, .null, .null, .null, .null, .null, .null, .null, .null, .null, .null, .null, .null, .null, .null, .null, .null, .null, .int 0, .int 0, .int 0, .int 0, .int 0, .long 0, .null, .int 0, .int 0]))) := ⟨_, rfl⟩
  rw [← hu6] at hF
  replace f_q1 : u6 q1 = some (.inl (cs 1, 4, .inl (fun _ => 0))) := by rw [hu6]; exact (va_up_ne _ _ (Nat.ne_of_gt l_h0_q1)).trans f_q1
  replace f_q4 : u6 q4 = some (.inl (cs 0, 4, .inl (fun _ => 0))) := by rw [hu6]; exact (va_up_ne _ _ (Nat.ne_of_gt l_h0_q4)).trans f_q4
  replace f_h0 : u6 h0 = some (.inr (9, [.ref q1, .ref q4, .null, .null, .null, .null, .null, .null, .null, .null, .null, .null, .null, .null, .null, .null, .null, .null, .null, .int 0, .int 0, .int 0, .int 0, .int 0, .long 0, .null, .int 0, .int 0])) := by rw [hu6]; exact va_up_self _ _ _
  refine lv_aload_n hx hb dX9_init_18 rfl (lv_at hl 0 rfl) ?_
  refine lv_bipush (v := 8) hx hb dX9_init_19 (by decide) ?_
  have m_q1 := hF.lt f_q1
  have m_q4 := hF.lt f_q4
  have m_h0 := hF.lt f_h0
  refine fw_newa X hF hS (atype := .int) wm_85 rfl (fun _ h => by cases h) 0 rfl (N' := 8) (a0 := (8, .inl (fun _ => 0))) rfl (by decide) (by decide) (by decide) (Nat.le_of_ble_eq_true rfl) (Nat.le_of_ble_eq_true rfl) dX9_init_21 (fun q7 H nq7 zq7 zzq7 hF hS => ?_)
  have l_q1_q7 : q1 < q7 := Nat.lt_of_lt_of_le m_q1 (Nat.le_of_eq zq7.symm)
  have l_q4_q7 : q4 < q7 := Nat.lt_of_lt_of_le m_q4 (Nat.le_of_eq zq7.symm)
  have l_h0_q7 : h0 < q7 := Nat.lt_of_lt_of_le m_h0 (Nat.le_of_eq zq7.symm)
  clear m_q1 m_q4 m_h0
  have hF : fw_P D cls10 A (va_up u6 q7 (some (.inl (cs 0, 8, .inl (fun _ => 0))))) H := hF
  obtain ⟨u8, hu8⟩ : ∃ y : fW, y = va_up u6 q7 (some (.inl (cs 0, 8, .inl (fun _ => 0)))) := ⟨_, rfl⟩
  rw [← hu8] at hF
  replace f_q1 : u8 q1 = some (.inl (cs 1, 4, .inl (fun _ => 0))) := by rw [hu8]; exact (va_up_ne _ _ (Nat.ne_of_lt l_q1_q7)).trans f_q1
  replace f_q4 : u8 q4 = some (.inl (cs 0, 4, .inl (fun _ => 0))) := by rw [hu8]; exact (va_up_ne _ _ (Nat.ne_of_lt l_q4_q7)).trans f_q4
  replace f_h0 : u8 h0 = some (.inr (9, [.ref q1, .ref q4, .null, .null, .null, .null, .null, .null, .null, .null, .null, .null, .null, .null, .null, .null, .null, .null, .null, .int 0, .int 0, .int 0, .int 0, .int 0, .long 0, .null, .int 0, .int 0])) := by rw [hu8]; exact (va_up_ne _ _ (Nat.ne_of_lt l_h0_q7)).trans f_h0
  have f_q7 : u8 q7 = some (.inl (cs 0, 8, .inl (fun _ => 0))) := by rw [hu8]; exact va_up_self _ _ _
  refine fw_putF X gC_ok hF hS f_h0 rfl 2 (by decide) wm_481 rfl hnm rfl (tf := .array .int) (by decide +kernel) rfl rfl (Nat.le_of_ble_eq_true rfl) dX9_init_23 (fun H locs hF hS => ?_)
  have hF : fw_P D cls10 A (va_up u8 h0 (some (.inr (9, [.ref q1, .ref q4, .ref q7, .null, .null, .null, .null, .null, .null, .null, .null, .null, .null, .null, .null, .null, .null, .null, .null, .int 0, .int 0, .int 0, .int 0, .int 0, .long 0, .null, .int 0, .int 0])))) H := hF
  obtain ⟨u9, hu9⟩ : ∃ y : fW, y = va_up u8 h0 (some (.inr (9, [.ref q1, .ref q4, .ref q7, .null, .null, .null, .null, .null, .null, .null, .null, .null, .null, .null, .null, .null, .null, .null, .null, .int 0, .int 0, .int 0, .int 0, .int 0, .long 0, .null, .int 0, .int 0]))) := ⟨_, rfl⟩
  rw [← hu9] at hF
  replace f_q1 : u9 q1 = some (.inl (cs 1, 4, .inl (fun _ => 0))) := by rw [hu9]; exact (va_up_ne _ _ (Nat.ne_of_gt l_h0_q1)).trans f_q1
  replace f_q4 : u9 q4 = some (.inl (cs 0, 4, .inl (fun _ => 0))) := by rw [hu9]; exact (va_up_ne _ _ (Nat.ne_of_gt l_h0_q4)).trans f_q4
  replace f_q7 : u9 q7 = some (.inl (cs 0, 8, .inl (fun _ => 0))) := by rw [hu9]; exact (va_up_ne _ _ (Nat.ne_of_gt l_h0_q7)).trans f_q7
  replace f_h0 : u9 h0 = some (.inr (9, [.ref q1, .ref q4, .ref q7, .null, .null, .null, .null, .null, .null, .null, .null, .null, .null, .null, .null, .null, .null, .null, .null, .int 0, .int 0, .int 0, .int 0, .int 0, .long 0, .null, .int 0, .int 0])) := by rw [hu9]; exact va_up_self _ _ _
  refine lv_aload_n hx hb dX9_init_26 rfl (lv_at hl 0 rfl) ?_
  refine lv_iconst (v := 4) hx hb dX9_init_27 (by decide) ?_
  have m_q1 := hF.lt f_q1
  have m_q4 := hF.lt f_q4
  have m_q7 := hF.lt f_q7
  have m_h0 := hF.lt f_h0
  refine fw_newa X hF hS (atype := .int) wm_85 rfl (fun _ h => by cases h) 0 rfl (N' := 4) (a0 := (4, .inl (fun _ => 0))) rfl (by decide) (by decide) (by decide) (Nat.le_of_ble_eq_true rfl) (Nat.le_of_ble_eq_true rfl) dX9_init_28 (fun q10 H nq10 zq10 zzq10 hF hS => ?_)
  have l_q1_q10 : q1 < q10 := Nat.lt_of_lt_of_le m_q1 (Nat.le_of_eq zq10.symm)
  have l_q4_q10 : q4 < q10 := Nat.lt_of_lt_of_le m_q4 (Nat.le_of_eq zq10.symm)
  have l_q7_q10 : q7 < q10 := Nat.lt_of_lt_of_le m_q7 (Nat.le_of_eq zq10.symm)
  have l_h0_q10 : h0 < q10 := Nat.lt_of_lt_of_le m_h0 (Nat.le_of_eq zq10.symm)
  clear m_q1 m_q4 m_q7 m_h0
  have hF : fw_P D cls10 A (va_up u9 q10 (some (.inl (cs 0, 4, .inl (fun _ => 0))))) H := hF
  obtain ⟨u11, hu11⟩ : ∃ y : fW, y = va_up u9 q10 (some (.inl (cs 0, 4, .inl (fun _ => 0)))) := ⟨_, rfl⟩
  rw [← hu11] at hF
  replace f_q1 : u11 q1 = some (.inl (cs 1, 4, .inl (fun _ => 0))) := by rw [hu11]; exact (va_up_ne _ _ (Nat.ne_of_lt l_q1_q10)).trans f_q1
  replace f_q4 : u11 q4 = some (.inl (cs 0, 4, .inl (fun _ => 0))) := by rw [hu11]; exact (va_up_ne _ _ (Nat.ne_of_lt l_q4_q10)).trans f_q4
  replace f_q7 : u11 q7 = some (.inl (cs 0, 8, .inl (fun _ => 0))) := by rw [hu11]; exact (va_up_ne _ _ (Nat.ne_of_lt l_q7_q10)).trans f_q7
  replace f_h0 : u11 h0 = some (.inr (9, [.ref q1, .ref q4, .ref q7, .null, .null, .null, .null, .null, .null, .null, .null, .null, .null, .null, .null, .null, .null, .null, .null, .int 0, .int 0, .int 0, .int 0, .int 0, .long 0, .null, .int 0, .int 0])) := by rw [hu11]; exact (va_up_ne _ _ (Nat.ne_of_lt l_h0_q10)).trans f_h0
  have f_q10 : u11 q10 = some (.inl (cs 0, 4, .inl (fun _ => 0))) := by rw [hu11]; exact va_up_self _ _ _
  refine fw_putF X gC_ok hF hS f_h0 rfl 3 (by decide) wm_482 rfl hnm rfl (tf := .array .int) (by decide +kernel) rfl rfl (Nat.le_of_ble_eq_true rfl) dX9_init_30 (fun H locs hF hS => ?_)
  have hF : fw_P D cls10 A (va_up u11 h0 (some (.inr (9, [.ref q1, .ref q4, .ref q7, .ref q10, .null, .null, .null, .null, .null, .null, .null, .null, .null, .null, .null, .null, .null, .null, .null, .int 0, .int 0, .int 0, .int 0, .int 0, .long 0, .null, .int 0, .int 0])))) H := hF
  obtain ⟨u12, hu12⟩ : ∃ y : fW, y = va_up u11 h0 (some (.inr (9, [.ref q1, .ref q4, .ref q7, .ref q10, .null, .null, .null, .null, .null, .null, .null, .null, .null, .null, .null, .null, .null, .null, .null, .int 0, .int 0, .int 0, .int 0, .int 0, .long 0, .null, .int 0, .int 0]))) := ⟨_, rfl⟩
  rw [← hu12] at hF
  replace f_q1 : u12 q1 = some (.inl (cs 1, 4, .inl (fun _ => 0))) := by rw [hu12]; exact (va_up_ne _ _ (Nat.ne_of_gt l_h0_q1)).trans f_q1
  replace f_q4 : u12 q4 = some (.inl (cs 0, 4, .inl (fun _ => 0))) := by rw [hu12]; exact (va_up_ne _ _ (Nat.ne_of_gt l_h0_q4)).trans f_q4
  replace f_q7 : u12 q7 = some (.inl (cs 0, 8, .inl (fun _ => 0))) := by rw [hu12]; exact (va_up_ne _ _ (Nat.ne_of_gt l_h0_q7)).trans f_q7
  replace f_q10 : u12 q10 = some (.inl (cs 0, 4, .inl (fun _ => 0))) := by rw [hu12]; exact (va_up_ne _ _ (Nat.ne_of_gt l_h0_q10)).trans f_q10
  replace f_h0 : u12 h0 = some (.inr (9, [.ref q1, .ref q4, .ref q7, .ref q10, .null, .null, .null, .null, .null, .null, .null, .null, .null, .null, .null, .null, .null, .null, .null, .int 0, .int 0, .int 0, .int 0, .int 0, .long 0, .null, .int 0, .int 0])) := by rw [hu12]; exact va_up_self _ _ _
  refine lv_aload_n hx hb dX9_init_33 rfl (lv_at hl 0 rfl) ?_
  refine lv_iconst (v := 4) hx hb dX9_init_34 (by decide) ?_
  have m_q1 := hF.lt f_q1
  have m_q4 := hF.lt f_q4
  have m_q7 := hF.lt f_q7
  have m_q10 := hF.lt f_q10
  have m_h0 := hF.lt f_h0
  refine fw_newa X hF hS (atype := .int) wm_85 rfl (fun _ h => by cases h) 0 rfl (N' := 4) (a0 := (4, .inl (fun _ => 0))) rfl (by decide) (by decide) (by decide) (Nat.le_of_ble_eq_true rfl) (Nat.le_of_ble_eq_true rfl) dX9_init_35 (fun q13 H nq13 zq13 zzq13 hF hS => ?_)
  have l_q1_q13 : q1 < q13 := Nat.lt_of_lt_of_le m_q1 (Nat.le_of_eq zq13.symm)
  have l_q4_q13 : q4 < q13 := Nat.lt_of_lt_of_le m_q4 (Nat.le_of_eq zq13.symm)
  have l_q7_q13 : q7 < q13 := Nat.lt_of_lt_of_le m_q7 (Nat.le_of_eq zq13.symm)
  have l_q10_q13 : q10 < q13 := Nat.lt_of_lt_of_le m_q10 (Nat.le_of_eq zq13.symm)
  have l_h0_q13 : h0 < q13 := Nat.lt_of_lt_of_le m_h0 (Nat.le_of_eq zq13.symm)
  clear m_q1 m_q4 m_q7 m_q10 m_h0
  have hF : fw_P D cls10 A (va_up u12 q13 (some (.inl (cs 0, 4, .inl (fun _ => 0))))) H := hF
  obtain ⟨u14, hu14⟩ : ∃ y : fW, y = va_up u12 q13 (some (.inl (cs 0, 4, .inl (fun _ => 0)))) := ⟨_, rfl⟩
  rw [← hu14] at hF
  replace f_q1 : u14 q1 = some (.inl (cs 1, 4, .inl (fun _ => 0))) := by rw [hu14]; exact (va_up_ne _ _ (Nat.ne_of_lt l_q1_q13)).trans f_q1
  replace f_q4 : u14 q4 = some (.inl (cs 0, 4, .inl (fun _ => 0))) := by rw [hu14]; exact (va_up_ne _ _ (Nat.ne_of_lt l_q4_q13)).trans f_q4
  replace f_q7 : u14 q7 = some (.inl (cs 0, 8, .inl (fun _ => 0))) := by rw [hu14]; exact (va_up_ne _ _ (Nat.ne_of_lt l_q7_q13)).trans f_q7
  replace f_q10 : u14 q10 = some (.inl (cs 0, 4, .inl (fun _ => 0))) := by rw [hu14]; exact (va_up_ne _ _ (Nat.ne_of_lt l_q10_q13)).trans f_q10
  replace f_h0 : u14 h0 = some (.inr (9, [.ref q1, .ref q4, .ref q7, .ref q10, .null, .null, .null, .null, .null, .null, .null, .null, .null, .null, .null, .null, .null, .null, .null, .int 0, .int 0, .int 0, .int 0, .int 0, .long 0, .null, .int 0, .int 0])) := by rw [hu14]; exact (va_up_ne _ _ (Nat.ne_of_lt l_h0_q13)).trans f_h0
  have f_q13 : u14 q13 = some (.inl (cs 0, 4, .inl (fun _ => 0))) := by rw [hu14]; exact va_up_self _ _ _
  refine fw_putF X gC_ok hF hS f_h0 rfl 4 (by decide) wm_483 rfl hnm rfl (tf := .array .int) (by decide +kernel) rfl rfl (Nat.le_of_ble_eq_true rfl) dX9_init_37 (fun H locs hF hS => ?_)
  have hF : fw_P D cls10 A (va_up u14 h0 (some (.inr (9, [.ref q1, .ref q4, .ref q7, .ref q10, .ref q13, .null, .null, .null, .null, .null, .null, .null, .null, .null, .null, .null, .null, .null, .null, .int 0, .int 0, .int 0, .int 0, .int 0, .long 0, .null, .int 0, .int 0])))) H := hF
  obtain ⟨u15, hu15⟩ : ∃ y : fW, y = va_up u14 h0 (some (.inr (9, [.ref q1, .ref q4, .ref q7, .ref q10, .ref q13, .null, .null, .null, .null, .null, .null, .null, .null, .null, .null, .null, .null, .null, .null, .int 0, .int 0, .int 0, .int 0, .int 0, .long 0, .null, .int 0, .int 0]))) := ⟨_, rfl⟩
  rw [← hu15] at hF
  replace f_q1 : u15 q1 = some (.inl (cs 1, 4, .inl (fun _ => 0))) := by rw [hu15]; exact (va_up_ne _ _ (Nat.ne_of_gt l_h0_q1)).trans f_q1
  replace f_q4 : u15 q4 = some (.inl (cs 0, 4, .inl (fun _ => 0))) := by rw [hu15]; exact (va_up_ne _ _ (Nat.ne_of_gt l_h0_q4)).trans f_q4
  replace f_q7 : u15 q7 = some (.inl (cs 0, 8, .inl (fun _ => 0))) := by rw [hu15]; exact (va_up_ne _ _ (Nat.ne_of_gt l_h0_q7)).trans f_q7
  replace f_q10 : u15 q10 = some (.inl (cs 0, 4, .inl (fun _ => 0))) := by rw [hu15]; exact (va_up_ne _ _ (Nat.ne_of_gt l_h0_q10)).trans f_q10
  replace f_q13 : u15 q13 = some (.inl (cs 0, 4, .inl (fun _ => 0))) := by rw [hu15]; exact (va_up_ne _ _ (Nat.ne_of_gt l_h0_q13)).trans f_q13
  replace f_h0 : u15 h0 = some (.inr (9, [.ref q1, .ref q4, .ref q7, .ref q10, .ref q13, .null, .null, .null, .null, .null, .null, .null, .null, .null, .null, .null, .null, .null, .null, .int 0, .int 0, .int 0, .int 0, .int 0, .long 0, .null, .int 0, .int 0])) := by rw [hu15]; exact va_up_self _ _ _
  refine lv_aload_n hx hb dX9_init_40 rfl (lv_at hl 0 rfl) ?_
  refine lv_bipush (v := 100) hx hb dX9_init_41 (by decide) ?_
  have m_q1 := hF.lt f_q1
  have m_q4 := hF.lt f_q4
  have m_q7 := hF.lt f_q7
  have m_q10 := hF.lt f_q10
  have m_q13 := hF.lt f_q13
  have m_h0 := hF.lt f_h0
  refine fw_newa X hF hS (atype := .int) wm_85 rfl (fun _ h => by cases h) 0 rfl (N' := 100) (a0 := (100, .inl (fun _ => 0))) rfl (by decide) (by decide) (by decide) (Nat.le_of_ble_eq_true rfl) (Nat.le_of_ble_eq_true rfl) dX9_init_43 (fun q16 H nq16 zq16 zzq16 hF hS => ?_)
  have l_q1_q16 : q1 < q16 := Nat.lt_of_lt_of_le m_q1 (Nat.le_of_eq zq16.symm)
  have l_q4_q16 : q4 < q16 := Nat.lt_of_lt_of_le m_q4 (Nat.le_of_eq zq16.symm)
  have l_q7_q16 : q7 < q16 := Nat.lt_of_lt_of_le m_q7 (Nat.le_of_eq zq16.symm)
  have l_q10_q16 : q10 < q16 := Nat.lt_of_lt_of_le m_q10 (Nat.le_of_eq zq16.symm)
  have l_q13_q16 : q13 < q16 := Nat.lt_of_lt_of_le m_q13 (Nat.le_of_eq zq16.symm)
  have l_h0_q16 : h0 < q16 := Nat.lt_of_lt_of_le m_h0 (Nat.le_of_eq zq16.symm)
  clear m_q1 m_q4 m_q7 m_q10 m_q13 m_h0
  have hF : fw_P D cls10 A (va_up u15 q16 (some (.inl (cs 0, 100, .inl (fun _ => 0))))) H := hF
  obtain ⟨u17, hu17⟩ : ∃ y : fW, y = va_up u15 q16 (some (.inl (cs 0, 100, .inl (fun _ => 0)))) := ⟨_, rfl⟩
  rw [← hu17] at hF
  replace f_q1 : u17 q1 = some (.inl (cs 1, 4, .inl (fun _ => 0))) := by rw [hu17]; exact (va_up_ne _ _ (Nat.ne_of_lt l_q1_q16)).trans f_q1
  replace f_q4 : u17 q4 = some (.inl (cs 0, 4, .inl (fun _ => 0))) := by rw [hu17]; exact (va_up_ne _ _ (Nat.ne_of_lt l_q4_q16)).trans f_q4
  replace f_q7 : u17 q7 = some (.inl (cs 0, 8, .inl (fun _ => 0))) := by rw [hu17]; exact (va_up_ne _ _ (Nat.ne_of_lt l_q7_q16)).trans f_q7
  replace f_q10 : u17 q10 = some (.inl (cs 0, 4, .inl (fun _ => 0))) := by rw [hu17]; exact (va_up_ne _ _ (Nat.ne_of_lt l_q10_q16)).trans f_q10
  replace f_q13 : u17 q13 = some (.inl (cs 0, 4, .inl (fun _ => 0))) := by rw [hu17]; exact (va_up_ne _ _ (Nat.ne_of_lt l_q13_q16)).trans f_q13
  replace f_h0 : u17 h0 = some (.inr (9, [.ref q1, .ref q4, .ref q7, .ref q10, .ref q13, .null, .null, .null, .null, .null, .null, .null, .null, .null, .null, .null, .null, .null, .null, .int 0, .int 0, .int 0, .int 0, .int 0, .long 0, .null, .int 0, .int 0])) := by rw [hu17]; exact (va_up_ne _ _ (Nat.ne_of_lt l_h0_q16)).trans f_h0
  have f_q16 : u17 q16 = some (.inl (cs 0, 100, .inl (fun _ => 0))) := by rw [hu17]; exact va_up_self _ _ _
  refine fw_putF X gC_ok hF hS f_h0 rfl 5 (by decide) wm_484 rfl hnm rfl (tf := .array .int) (by decide +kernel) rfl rfl (Nat.le_of_ble_eq_true rfl) dX9_init_45 (fun H locs hF hS => ?_)
  have hF : fw_P D cls10 A (va_up u17 h0 (some (.inr (9, [.ref q1, .ref q4, .ref q7, .ref q10, .ref q13, .ref q16, .null, .null, .null, .null, .null, .null, .null, .null, .null, .null, .null, .null, .null, .int 0, .int 0, .int 0, .int 0, .int 0, .long 0, .null, .int 0, .int 0])))) H := hF
  obtain ⟨u18, hu18⟩ : ∃ y : fW, y = va_up u17 h0 (some (.inr (9, [.ref q1, .ref q4, .ref q7, .ref q10, .ref q13, .ref q16, .null, .null, .null, .null, .null, .null, .null, .null, .null, .null, .null, .null, .null, .int 0, .int 0, .int 0, .int 0, .int 0, .long 0, .null, .int 0, .int 0]))) := ⟨_, rfl⟩
  rw [← hu18] at hF
  replace f_q1 : u18 q1 = some (.inl (cs 1, 4, .inl (fun _ => 0))) := by rw [hu18]; exact (va_up_ne _ _ (Nat.ne_of_gt l_h0_q1)).trans f_q1
  replace f_q4 : u18 q4 = some (.inl (cs 0, 4, .inl (fun _ => 0))) := by rw [hu18]; exact (va_up_ne _ _ (Nat.ne_of_gt l_h0_q4)).trans f_q4
  replace f_q7 : u18 q7 = some (.inl (cs 0, 8, .inl (fun _ => 0))) := by rw [hu18]; exact (va_up_ne _ _ (Nat.ne_of_gt l_h0_q7)).trans f_q7
  replace f_q10 : u18 q10 = some (.inl (cs 0, 4, .inl (fun _ => 0))) := by rw [hu18]; exact (va_up_ne _ _ (Nat.ne_of_gt l_h0_q10)).trans f_q10
  replace f_q13 : u18 q13 = some (.inl (cs 0, 4, .inl (fun _ => 0))) := by rw [hu18]; exact (va_up_ne _ _ (Nat.ne_of_gt l_h0_q13)).trans f_q13
  replace f_q16 : u18 q16 = some (.inl (cs 0, 100, .inl (fun _ => 0))) := by rw [hu18]; exact (va_up_ne _ _ (Nat.ne_of_gt l_h0_q16)).trans f_q16
  replace f_h0 : u18 h0 = some (.inr (9, [.ref q1, .ref q4, .ref q7, .ref q10, .ref q13, .ref q16, .null, .null, .null, .null, .null, .null, .null, .null, .null, .null, .null, .null, .null, .int 0, .int 0, .int 0, .int 0, .int 0, .long 0, .null, .int 0, .int 0])) := by rw [hu18]; exact va_up_self _ _ _
  refine lv_aload_n hx hb dX9_init_48 rfl (lv_at hl 0 rfl) ?_
  refine lv_bipush (v := 100) hx hb dX9_init_49 (by decide) ?_
  have m_q1 := hF.lt f_q1
  have m_q4 := hF.lt f_q4
  have m_q7 := hF.lt f_q7
  have m_q10 := hF.lt f_q10
  have m_q13 := hF.lt f_q13
  have m_q16 := hF.lt f_q16
  have m_h0 := hF.lt f_h0
  refine fw_newa X hF hS (atype := .int) wm_85 rfl (fun _ h => by cases h) 0 rfl (N' := 100) (a0 := (100, .inl (fun _ => 0))) rfl (by decide) (by decide) (by decide) (Nat.le_of_ble_eq_true rfl) (Nat.le_of_ble_eq_true rfl) dX9_init_51 (fun q19 H nq19 zq19 zzq19 hF hS => ?_)
  have l_q1_q19 : q1 < q19 := Nat.lt_of_lt_of_le m_q1 (Nat.le_of_eq zq19.symm)
  have l_q4_q19 : q4 < q19 := Nat.lt_of_lt_of_le m_q4 (Nat.le_of_eq zq19.symm)
  have l_q7_q19 : q7 < q19 := Nat.lt_of_lt_of_le m_q7 (Nat.le_of_eq zq19.symm)
  have l_q10_q19 : q10 < q19 := Nat.lt_of_lt_of_le m_q10 (Nat.le_of_eq zq19.symm)
  have l_q13_q19 : q13 < q19 := Nat.lt_of_lt_of_le m_q13 (Nat.le_of_eq zq19.symm)
  have l_q16_q19 : q16 < q19 := Nat.lt_of_lt_of_le m_q16 (Nat.le_of_eq zq19.symm)
  have l_h0_q19 : h0 < q19 := Nat.lt_of_lt_of_le m_h0 (Nat.le_of_eq zq19.symm)
  clear m_q1 m_q4 m_q7 m_q10 m_q13 m_q16 m_h0
  have hF : fw_P D cls10 A (va_up u18 q19 (some (.inl (cs 0, 100, .inl (fun _ => 0))))) H := hF
  obtain ⟨u20, hu20⟩ : ∃ y : fW, y = va_up u18 q19 (some (.inl (cs 0, 100, .inl (fun _ => 0)))) := ⟨_, rfl⟩
  rw [← hu20] at hF
  replace f_q1 : u20 q1 = some (.inl (cs 1, 4, .inl (fun _ => 0))) := by rw [hu20]; exact (va_up_ne _ _ (Nat.ne_of_lt l_q1_q19)).trans f_q1
  replace f_q4 : u20 q4 = some (.inl (cs 0, 4, .inl (fun _ => 0))) := by rw [hu20]; exact (va_up_ne _ _ (Nat.ne_of_lt l_q4_q19)).trans f_q4
  replace f_q7 : u20 q7 = some (.inl (cs 0, 8, .inl (fun _ => 0))) := by rw [hu20]; exact (va_up_ne _ _ (Nat.ne_of_lt l_q7_q19)).trans f_q7
  replace f_q10 : u20 q10 = some (.inl (cs 0, 4, .inl (fun _ => 0))) := by rw [hu20]; exact (va_up_ne _ _ (Nat.ne_of_lt l_q10_q19)).trans f_q10
  replace f_q13 : u20 q13 = some (.inl (cs 0, 4, .inl (fun _ => 0))) := by rw [hu20]; exact (va_up_ne _ _ (Nat.ne_of_lt l_q13_q19)).trans f_q13
  replace f_q16 : u20 q16 = some (.inl (cs 0, 100, .inl (fun _ => 0))) := by rw [hu20]; exact (va_up_ne _ _ (Nat.ne_of_lt l_q16_q19)).trans f_q16
  replace f_h0 : u20 h0 = some (.inr (9, [.ref q1, .ref q4, .ref q7, .ref q10, .ref q13, .ref q16, .null, .null, .null, .null, .null, .null, .null, .null, .null, .null, .null, .null, .null, .int 0, .int 0, .int 0, .int 0, .int 0, .long 0, .null, .int 0, .int 0])) := by rw [hu20]; exact (va_up_ne _ _ (Nat.ne_of_lt l_h0_q19)).trans f_h0
  have f_q19 : u20 q19 = some (.inl (cs 0, 100, .inl (fun _ => 0))) := by rw [hu20]; exact va_up_self _ _ _
  refine fw_putF X gC_ok hF hS f_h0 rfl 6 (by decide) wm_485 rfl hnm rfl (tf := .array .int) (by decide +kernel) rfl rfl (Nat.le_of_ble_eq_true rfl) dX9_init_53 (fun H locs hF hS => ?_)
  have hF : fw_P D cls10 A (va_up u20 h0 (some (.inr (9, [.ref q1, .ref q4, .ref q7, .ref q10, .ref q13, .ref q16, .ref q19, .null, .null, .null, .null, .null, .null, .null, .null, .null, .null, .null, .null, .int 0, .int 0, .int 0, .int 0, .int 0, .long 0, .null, .int 0, .int 0])))) H := hF
  obtain ⟨u21, hu21⟩ : ∃ y : fW, y = va_up u20 h0 (some (.inr (9, [.ref q1, .ref q4, .ref q7, .ref q10, .ref q13, .ref q16, .ref q19, .null, .null, .null, .null, .null, .null, .null, .null, .null, .null, .null, .null, .int 0, .int 0, .int 0, .int 0, .int 0, .long 0, .null, .int 0, .int 0]))) := ⟨_, rfl⟩
  rw [← hu21] at hF
  replace f_q1 : u21 q1 = some (.inl (cs 1, 4, .inl (fun _ => 0))) := by rw [hu21]; exact (va_up_ne _ _ (Nat.ne_of_gt l_h0_q1)).trans f_q1
  replace f_q4 : u21 q4 = some (.inl (cs 0, 4, .inl (fun _ => 0))) := by rw [hu21]; exact (va_up_ne _ _ (Nat.ne_of_gt l_h0_q4)).trans f_q4
  replace f_q7 : u21 q7 = some (.inl (cs 0, 8, .inl (fun _ => 0))) := by rw [hu21]; exact (va_up_ne _ _ (Nat.ne_of_gt l_h0_q7)).trans f_q7
  replace f_q10 : u21 q10 = some (.inl (cs 0, 4, .inl (fun _ => 0))) := by rw [hu21]; exact (va_up_ne _ _ (Nat.ne_of_gt l_h0_q10)).trans f_q10
  replace f_q13 : u21 q13 = some (.inl (cs 0, 4, .inl (fun _ => 0))) := by rw [hu21]; exact (va_up_ne _ _ (Nat.ne_of_gt l_h0_q13)).trans f_q13
  replace f_q16 : u21 q16 = some (.inl (cs 0, 100, .inl (fun _ => 0))) := by rw [hu21]; exact (va_up_ne _ _ (Nat.ne_of_gt l_h0_q16)).trans f_q16
  replace f_q19 : u21 q19 = some (.inl (cs 0, 100, .inl (fun _ => 0))) := by rw [hu21]; exact (va_up_ne _ _ (Nat.ne_of_gt l_h0_q19)).trans f_q19
  replace f_h0 : u21 h0 = some (.inr (9, [.ref q1, .ref q4, .ref q7, .ref q10, .ref q13, .ref q16, .ref q19, .null, .null, .null, .null, .null, .null, .null, .null, .null, .null, .null, .null, .int 0, .int 0, .int 0, .int 0, .int 0, .long 0, .null, .int 0, .int 0])) := by rw [hu21]; exact va_up_self _ _ _
  refine lv_aload_n hx hb dX9_init_56 rfl (lv_at hl 0 rfl) ?_
  refine lv_bipush (v := 100) hx hb dX9_init_57 (by decide) ?_
  have m_q1 := hF.lt f_q1
  have m_q4 := hF.lt f_q4
  have m_q7 := hF.lt f_q7
  have m_q10 := hF.lt f_q10
  have m_q13 := hF.lt f_q13
  have m_q16 := hF.lt f_q16
  have m_q19 := hF.lt f_q19
  have m_h0 := hF.lt f_h0
  refine fw_newa X hF hS (atype := .boolean) wm_564 rfl (fun _ h => by cases h) 1 rfl (N' := 100) (a0 := (100, .inl (fun _ => 0))) rfl (by decide) (by decide) (by decide) (Nat.le_of_ble_eq_true rfl) (Nat.le_of_ble_eq_true rfl) dX9_init_59 (fun q22 H nq22 zq22 zzq22 hF hS => ?_)
  have l_q1_q22 : q1 < q22 := Nat.lt_of_lt_of_le m_q1 (Nat.le_of_eq zq22.symm)
  have l_q4_q22 : q4 < q22 := Nat.lt_of_lt_of_le m_q4 (Nat.le_of_eq zq22.symm)
  have l_q7_q22 : q7 < q22 := Nat.lt_of_lt_of_le m_q7 (Nat.le_of_eq zq22.symm)
  have l_q10_q22 : q10 < q22 := Nat.lt_of_lt_of_le m_q10 (Nat.le_of_eq zq22.symm)
  have l_q13_q22 : q13 < q22 := Nat.lt_of_lt_of_le m_q13 (Nat.le_of_eq zq22.symm)
  have l_q16_q22 : q16 < q22 := Nat.lt_of_lt_of_le m_q16 (Nat.le_of_eq zq22.symm)
  have l_q19_q22 : q19 < q22 := Nat.lt_of_lt_of_le m_q19 (Nat.le_of_eq zq22.symm)
  have l_h0_q22 : h0 < q22 := Nat.lt_of_lt_of_le m_h0 (Nat.le_of_eq zq22.symm)
  clear m_q1 m_q4 m_q7 m_q10 m_q13 m_q16 m_q19 m_h0
  have hF : fw_P D cls10 A (va_up u21 q22 (some (.inl (cs 1, 100, .inl (fun _ => 0))))) H := hF
  obtain ⟨u23, hu23⟩ : ∃ y : fW, y = va_up u21 q22 (some (.inl (cs 1, 100, .inl (fun _ => 0)))) := ⟨_, rfl⟩
  rw [← hu23] at hF
  replace f_q1 : u23 q1 = some (.inl (cs 1, 4, .inl (fun _ => 0))) := by rw [hu23]; exact (va_up_ne _ _ (Nat.ne_of_lt l_q1_q22)).trans f_q1
  replace f_q4 : u23 q4 = some (.inl (cs 0, 4, .inl (fun _ => 0))) := by rw [hu23]; exact (va_up_ne _ _ (Nat.ne_of_lt l_q4_q22)).trans f_q4
  replace f_q7 : u23 q7 = some (.inl (cs 0, 8, .inl (fun _ => 0))) := by rw [hu23]; exact (va_up_ne _ _ (Nat.ne_of_lt l_q7_q22)).trans f_q7
  replace f_q10 : u23 q10 = some (.inl (cs 0, 4, .inl (fun _ => 0))) := by rw [hu23]; exact (va_up_ne _ _ (Nat.ne_of_lt l_q10_q22)).trans f_q10
  replace f_q13 : u23 q13 = some (.inl (cs 0, 4, .inl (fun _ => 0))) := by rw [hu23]; exact (va_up_ne _ _ (Nat.ne_of_lt l_q13_q22)).trans f_q13
  replace f_q16 : u23 q16 = some (.inl (cs 0, 100, .inl (fun _ => 0))) := by rw [hu23]; exact (va_up_ne _ _ (Nat.ne_of_lt l_q16_q22)).trans f_q16
  replace f_q19 : u23 q19 = some (.inl (cs 0, 100, .inl (fun _ => 0))) := by rw [hu23]; exact (va_up_ne _ _ (Nat.ne_of_lt l_q19_q22)).trans f_q19
  replace f_h0 : u23 h0 = some (.inr (9, [.ref q1, .ref q4, .ref q7, .ref q10, .ref q13, .ref q16, .ref q19, .null, .null, .null, .null, .null, .null, .null, .null, .null, .null, .null, .null, .int 0, .int 0, .int 0, .int 0, .int 0, .long 0, .null, .int 0, .int 0])) := by rw [hu23]; exact (va_up_ne _ _ (Nat.ne_of_lt l_h0_q22)).trans f_h0
  have f_q22 : u23 q22 = some (.inl (cs 1, 100, .inl (fun _ => 0))) := by rw [hu23]; exact va_up_self _ _ _
  refine fw_putF X gC_ok hF hS f_h0 rfl 7 (by decide) wm_486 rfl hnm rfl (tf := .array .boolean) (by decide +kernel) rfl rfl (Nat.le_of_ble_eq_true rfl) dX9_init_61 (fun H locs hF hS => ?_)
  have hF : fw_P D cls10 A (va_up u23 h0 (some (.inr (9, [.ref q1, .ref q4, .ref q7, .ref q10, .ref q13, .ref q16, .ref q19, .ref q22, .null, .null, .null, .null, .null, .null, .null, .null, .null, .null, .null, .int 0, .int 0, .int 0, .int 0, .int 0, .long 0, .null, .int 0, .int 0])))) H := hF
  obtain ⟨u24, hu24⟩ : ∃ y : fW, y = va_up u23 h0 (some (.inr (9, [.ref q1, .ref q4, .ref q7, .ref q10, .ref q13, .ref q16, .ref q19, .ref q22, .null, .null, .null, .null, .null, .null, .null, .null, .null, .null, .null, .int 0, .int 0, .int 0, .int 0, .int 0, .long 0, .null, .int 0, .int 0]))) := ⟨_, rfl⟩
  rw [← hu24] at hF
  replace f_q1 : u24 q1 = some (.inl (cs 1, 4, .inl (fun _ => 0))) := by rw [hu24]; exact (va_up_ne _ _ (Nat.ne_of_gt l_h0_q1)).trans f_q1
  replace f_q4 : u24 q4 = some (.inl (cs 0, 4, .inl (fun _ => 0))) := by rw [hu24]; exact (va_up_ne _ _ (Nat.ne_of_gt l_h0_q4)).trans f_q4
  replace f_q7 : u24 q7 = some (.inl (cs 0, 8, .inl (fun _ => 0))) := by rw [hu24]; exact (va_up_ne _ _ (Nat.ne_of_gt l_h0_q7)).trans f_q7
  replace f_q10 : u24 q10 = some (.inl (cs 0, 4, .inl (fun _ => 0))) := by rw [hu24]; exact (va_up_ne _ _ (Nat.ne_of_gt l_h0_q10)).trans f_q10
  replace f_q13 : u24 q13 = some (.inl (cs 0, 4, .inl (fun _ => 0))) := by rw [hu24]; exact (va_up_ne _ _ (Nat.ne_of_gt l_h0_q13)).trans f_q13
  replace f_q16 : u24 q16 = some (.inl (cs 0, 100, .inl (fun _ => 0))) := by rw [hu24]; exact (va_up_ne _ _ (Nat.ne_of_gt l_h0_q16)).trans f_q16
  replace f_q19 : u24 q19 = some (.inl (cs 0, 100, .inl (fun _ => 0))) := by rw [hu24]; exact (va_up_ne _ _ (Nat.ne_of_gt l_h0_q19)).trans f_q19
  replace f_q22 : u24 q22 = some (.inl (cs 1, 100, .inl (fun _ => 0))) := by rw [hu24]; exact (va_up_ne _ _ (Nat.ne_of_gt l_h0_q22)).trans f_q22
  replace f_h0 : u24 h0 = some (.inr (9, [.ref q1, .ref q4, .ref q7, .ref q10, .ref q13, .ref q16, .ref q19, .ref q22, .null, .null, .null, .null, .null, .null, .null, .null, .null, .null, .null, .int 0, .int 0, .int 0, .int 0, .int 0, .long 0, .null, .int 0, .int 0])) := by rw [hu24]; exact va_up_self _ _ _
  refine lv_aload_n hx hb dX9_init_64 rfl (lv_at hl 0 rfl) ?_
  refine lv_iconst (v := 4) hx hb dX9_init_65 (by decide) ?_
  have m_q1 := hF.lt f_q1
  have m_q4 := hF.lt f_q4
  have m_q7 := hF.lt f_q7
  have m_q10 := hF.lt f_q10
  have m_q13 := hF.lt f_q13
  have m_q16 := hF.lt f_q16
  have m_q19 := hF.lt f_q19
  have m_q22 := hF.lt f_q22
  have m_h0 := hF.lt f_h0
  refine fw_newa X hF hS (atype := .int) wm_85 rfl (fun _ h => by cases h) 0 rfl (N' := 4) (a0 := (4, .inl (fun _ => 0))) rfl (by decide) (by decide) (by decide) (Nat.le_of_ble_eq_true rfl) (Nat.le_of_ble_eq_true rfl) dX9_init_66 (fun q25 H nq25 zq25 zzq25 hF hS => ?_)
  have l_q1_q25 : q1 < q25 := Nat.lt_of_lt_of_le m_q1 (Nat.le_of_eq zq25.symm)
  have l_q4_q25 : q4 < q25 := Nat.lt_of_lt_of_le m_q4 (Nat.le_of_eq zq25.symm)
  have l_q7_q25 : q7 < q25 := Nat.lt_of_lt_of_le m_q7 (Nat.le_of_eq zq25.symm)
  have l_q10_q25 : q10 < q25 := Nat.lt_of_lt_of_le m_q10 (Nat.le_of_eq zq25.symm)
  have l_q13_q25 : q13 < q25 := Nat.lt_of_lt_of_le m_q13 (Nat.le_of_eq zq25.symm)
  have l_q16_q25 : q16 < q25 := Nat.lt_of_lt_of_le m_q16 (Nat.le_of_eq zq25.symm)
  have l_q19_q25 : q19 < q25 := Nat.lt_of_lt_of_le m_q19 (Nat.le_of_eq zq25.symm)
  have l_q22_q25 : q22 < q25 := Nat.lt_of_lt_of_le m_q22 (Nat.le_of_eq zq25.symm)
  have l_h0_q25 : h0 < q25 := Nat.lt_of_lt_of_le m_h0 (Nat.le_of_eq zq25.symm)
  clear m_q1 m_q4 m_q7 m_q10 m_q13 m_q16 m_q19 m_q22 m_h0
  have hF : fw_P D cls10 A (va_up u24 q25 (some (.inl (cs 0, 4, .inl (fun _ => 0))))) H := hF
  obtain ⟨u26, hu26⟩ : ∃ y : fW, y = va_up u24 q25 (some (.inl (cs 0, 4, .inl (fun _ => 0)))) := ⟨_, rfl⟩
  rw [← hu26] at hF
  replace f_q1 : u26 q1 = some (.inl (cs 1, 4, .inl (fun _ => 0))) := by rw [hu26]; exact (va_up_ne _ _ (Nat.ne_of_lt l_q1_q25)).trans f_q1
  replace f_q4 : u26 q4 = some (.inl (cs 0, 4, .inl (fun _ => 0))) := by rw [hu26]; exact (va_up_ne _ _ (Nat.ne_of_lt l_q4_q25)).trans f_q4
  replace f_q7 : u26 q7 = some (.inl (cs 0, 8, .inl (fun _ => 0))) := by rw [hu26]; exact (va_up_ne _ _ (Nat.ne_of_lt l_q7_q25)).trans f_q7
  replace f_q10 : u26 q10 = some (.inl (cs 0, 4, .inl (fun _ => 0))) := by rw [hu26]; exact (va_up_ne _ _ (Nat.ne_of_lt l_q10_q25)).trans f_q10
  replace f_q13 : u26 q13 = some (.inl (cs 0, 4, .inl (fun _ => 0))) := by rw [hu26]; exact (va_up_ne _ _ (Nat.ne_of_lt l_q13_q25)).trans f_q13
  replace f_q16 : u26 q16 = some (.inl (cs 0, 100, .inl (fun _ => 0))) := by rw [hu26]; exact (va_up_ne _ _ (Nat.ne_of_lt l_q16_q25)).trans f_q16
  replace f_q19 : u26 q19 = some (.inl (cs 0, 100, .inl (fun _ => 0))) := by rw [hu26]; exact (va_up_ne _ _ (Nat.ne_of_lt l_q19_q25)).trans f_q19
  replace f_q22 : u26 q22 = some (.inl (cs 1, 100, .inl (fun _ => 0))) := by rw [hu26]; exact (va_up_ne _ _ (Nat.ne_of_lt l_q22_q25)).trans f_q22
  replace f_h0 : u26 h0 = some (.inr (9, [.ref q1, .ref q4, .ref q7, .ref q10, .ref q13, .ref q16, .ref q19, .ref q22, .null, .null, .null, .null, .null, .null, .null, .null, .null, .null, .null, .int 0, .int 0, .int 0, .int 0, .int 0, .long 0, .null, .int 0, .int 0])) := by rw [hu26]; exact (va_up_ne _ _ (Nat.ne_of_lt l_h0_q25)).trans f_h0
  have f_q25 : u26 q25 = some (.inl (cs 0, 4, .inl (fun _ => 0))) := by rw [hu26]; exact va_up_self _ _ _
  refine fw_putF X gC_ok hF hS f_h0 rfl 8 (by decide) wm_487 rfl hnm rfl (tf := .array .int) (by decide +kernel) rfl rfl (Nat.le_of_ble_eq_true rfl) dX9_init_68 (fun H locs hF hS => ?_)
  have hF : fw_P D cls10 A (va_up u26 h0 (some (.inr (9, [.ref q1, .ref q4, .ref q7, .ref q10, .ref q13, .ref q16, .ref q19, .ref q22, .ref q25, .null, .null, .null, .null, .null, .null, .null, .null, .null, .null, .int 0, .int 0, .int 0, .int 0, .int 0, .long 0, .null, .int 0, .int 0])))) H := hF
  obtain ⟨u27, hu27⟩ : ∃ y : fW, y = va_up u26 h0 (some (.inr (9, [.ref q1, .ref q4, .ref q7, .ref q10, .ref q13, .ref q16, .ref q19, .ref q22, .ref q25, .null, .null, .null, .null, .null, .null, .null, .null, .null, .null, .int 0, .int 0, .int 0, .int 0, .int 0, .long 0, .null, .int 0, .int 0]))) := ⟨_, rfl⟩
  rw [← hu27] at hF
  replace f_q1 : u27 q1 = some (.inl (cs 1, 4, .inl (fun _ => 0))) := by rw [hu27]; exact (va_up_ne _ _ (Nat.ne_of_gt l_h0_q1)).trans f_q1
  replace f_q4 : u27 q4 = some (.inl (cs 0, 4, .inl (fun _ => 0))) := by rw [hu27]; exact (va_up_ne _ _ (Nat.ne_of_gt l_h0_q4)).trans f_q4
  replace f_q7 : u27 q7 = some (.inl (cs 0, 8, .inl (fun _ => 0))) := by rw [hu27]; exact (va_up_ne _ _ (Nat.ne_of_gt l_h0_q7)).trans f_q7
  replace f_q10 : u27 q10 = some (.inl (cs 0, 4, .inl (fun _ => 0))) := by rw [hu27]; exact (va_up_ne _ _ (Nat.ne_of_gt l_h0_q10)).trans f_q10
  replace f_q13 : u27 q13 = some (.inl (cs 0, 4, .inl (fun _ => 0))) := by rw [hu27]; exact (va_up_ne _ _ (Nat.ne_of_gt l_h0_q13)).trans f_q13
  replace f_q16 : u27 q16 = some (.inl (cs 0, 100, .inl (fun _ => 0))) := by rw [hu27]; exact (va_up_ne _ _ (Nat.ne_of_gt l_h0_q16)).trans f_q16
  replace f_q19 : u27 q19 = some (.inl (cs 0, 100, .inl (fun _ => 0))) := by rw [hu27]; exact (va_up_ne _ _ (Nat.ne_of_gt l_h0_q19)).trans f_q19
  replace f_q22 : u27 q22 = some (.inl (cs 1, 100, .inl (fun _ => 0))) := by rw [hu27]; exact (va_up_ne _ _ (Nat.ne_of_gt l_h0_q22)).trans f_q22
  replace f_q25 : u27 q25 = some (.inl (cs 0, 4, .inl (fun _ => 0))) := by rw [hu27]; exact (va_up_ne _ _ (Nat.ne_of_gt l_h0_q25)).trans f_q25
  replace f_h0 : u27 h0 = some (.inr (9, [.ref q1, .ref q4, .ref q7, .ref q10, .ref q13, .ref q16, .ref q19, .ref q22, .ref q25, .null, .null, .null, .null, .null, .null, .null, .null, .null, .null, .int 0, .int 0, .int 0, .int 0, .int 0, .long 0, .null, .int 0, .int 0])) := by rw [hu27]; exact va_up_self _ _ _
  refine lv_aload_n hx hb dX9_init_71 rfl (lv_at hl 0 rfl) ?_
  refine lv_bipush (v := 80) hx hb dX9_init_72 (by decide) ?_
  have m_q1 := hF.lt f_q1
  have m_q4 := hF.lt f_q4
  have m_q7 := hF.lt f_q7
  have m_q10 := hF.lt f_q10
  have m_q13 := hF.lt f_q13
  have m_q16 := hF.lt f_q16
  have m_q19 := hF.lt f_q19
  have m_q22 := hF.lt f_q22
  have m_q25 := hF.lt f_q25
  have m_h0 := hF.lt f_h0
  refine fw_newa X hF hS (atype := .int) wm_85 rfl (fun _ h => by cases h) 0 rfl (N' := 80) (a0 := (80, .inl (fun _ => 0))) rfl (by decide) (by decide) (by decide) (Nat.le_of_ble_eq_true rfl) (Nat.le_of_ble_eq_true rfl) dX9_init_74 (fun q28 H nq28 zq28 zzq28 hF hS => ?_)
  have l_q1_q28 : q1 < q28 := Nat.lt_of_lt_of_le m_q1 (Nat.le_of_eq zq28.symm)
  have l_q4_q28 : q4 < q28 := Nat.lt_of_lt_of_le m_q4 (Nat.le_of_eq zq28.symm)
  have l_q7_q28 : q7 < q28 := Nat.lt_of_lt_of_le m_q7 (Nat.le_of_eq zq28.symm)
  have l_q10_q28 : q10 < q28 := Nat.lt_of_lt_of_le m_q10 (Nat.le_of_eq zq28.symm)
  have l_q13_q28 : q13 < q28 := Nat.lt_of_lt_of_le m_q13 (Nat.le_of_eq zq28.symm)
  have l_q16_q28 : q16 < q28 := Nat.lt_of_lt_of_le m_q16 (Nat.le_of_eq zq28.symm)
  have l_q19_q28 : q19 < q28 := Nat.lt_of_lt_of_le m_q19 (Nat.le_of_eq zq28.symm)
  have l_q22_q28 : q22 < q28 := Nat.lt_of_lt_of_le m_q22 (Nat.le_of_eq zq28.symm)
  have l_q25_q28 : q25 < q28 := Nat.lt_of_lt_of_le m_q25 (Nat.le_of_eq zq28.symm)
  have l_h0_q28 : h0 < q28 := Nat.lt_of_lt_of_le m_h0 (Nat.le_of_eq zq28.symm)
  clear m_q1 m_q4 m_q7 m_q10 m_q13 m_q16 m_q19 m_q22 m_q25 m_h0
  have hF : fw_P D cls10 A (va_up u27 q28 (some (.inl (cs 0, 80, .inl (fun _ => 0))))) H := hF
  obtain ⟨u29, hu29⟩ : ∃ y : fW, y = va_up u27 q28 (some (.inl (cs 0, 80, .inl (fun _ => 0)))) := ⟨_, rfl⟩
  rw [← hu29] at hF
  replace f_q1 : u29 q1 = some (.inl (cs 1, 4, .inl (fun _ => 0))) := by rw [hu29]; exact (va_up_ne _ _ (Nat.ne_of_lt l_q1_q28)).trans f_q1
  replace f_q4 : u29 q4 = some (.inl (cs 0, 4, .inl (fun _ => 0))) := by rw [hu29]; exact (va_up_ne _ _ (Nat.ne_of_lt l_q4_q28)).trans f_q4
  replace f_q7 : u29 q7 = some (.inl (cs 0, 8, .inl (fun _ => 0))) := by rw [hu29]; exact (va_up_ne _ _ (Nat.ne_of_lt l_q7_q28)).trans f_q7
  replace f_q10 : u29 q10 = some (.inl (cs 0, 4, .inl (fun _ => 0))) := by rw [hu29]; exact (va_up_ne _ _ (Nat.ne_of_lt l_q10_q28)).trans f_q10
  replace f_q13 : u29 q13 = some (.inl (cs 0, 4, .inl (fun _ => 0))) := by rw [hu29]; exact (va_up_ne _ _ (Nat.ne_of_lt l_q13_q28)).trans f_q13
  replace f_q16 : u29 q16 = some (.inl (cs 0, 100, .inl (fun _ => 0))) := by rw [hu29]; exact (va_up_ne _ _ (Nat.ne_of_lt l_q16_q28)).trans f_q16
  replace f_q19 : u29 q19 = some (.inl (cs 0, 100, .inl (fun _ => 0))) := by rw [hu29]; exact (va_up_ne _ _ (Nat.ne_of_lt l_q19_q28)).trans f_q19
  replace f_q22 : u29 q22 = some (.inl (cs 1, 100, .inl (fun _ => 0))) := by rw [hu29]; exact (va_up_ne _ _ (Nat.ne_of_lt l_q22_q28)).trans f_q22
  replace f_q25 : u29 q25 = some (.inl (cs 0, 4, .inl (fun _ => 0))) := by rw [hu29]; exact (va_up_ne _ _ (Nat.ne_of_lt l_q25_q28)).trans f_q25
  replace f_h0 : u29 h0 = some (.inr (9, [.ref q1, .ref q4, .ref q7, .ref q10, .ref q13, .ref q16, .ref q19, .ref q22, .ref q25, .null, .null, .null, .null, .null, .null, .null, .null, .null, .null, .int 0, .int 0, .int 0, .int 0, .int 0, .long 0, .null, .int 0, .int 0])) := by rw [hu29]; exact (va_up_ne _ _ (Nat.ne_of_lt l_h0_q28)).trans f_h0
  have f_q28 : u29 q28 = some (.inl (cs 0, 80, .inl (fun _ => 0))) := by rw [hu29]; exact va_up_self _ _ _
  refine fw_putF X gC_ok hF hS f_h0 rfl 9 (by decide) wm_488 rfl hnm rfl (tf := .array .int) (by decide +kernel) rfl rfl (Nat.le_of_ble_eq_true rfl) dX9_init_76 (fun H locs hF hS => ?_)
  have hF : fw_P D cls10 A (va_up u29 h0 (some (.inr (9, [.ref q1, .ref q4, .ref q7, .ref q10, .ref q13, .ref q16, .ref q19, .ref q22, .ref q25, .ref q28, .null, .null, .null, .null, .null, .null, .null, .null, .null, .int 0, .int 0, .int 0, .int 0, .int 0, .long 0, .null, .int 0, .int 0])))) H := hF
  obtain ⟨u30, hu30⟩ : ∃ y : fW, y = va_up u29 h0 (some (.inr (9, [.ref q1, .ref q4, .ref q7, .ref q10, .ref q13, .ref q16, .ref q19, .ref q22, .ref q25, .ref q28, .null, .null, .null, .null, .null, .null, .null, .null, .null, .int 0, .int 0, .int 0, .int 0, .int 0, .long 0, .null, .int 0, .int 0]))) := ⟨_, rfl⟩
  rw [← hu30] at hF
  replace f_q1 : u30 q1 = some (.inl (cs 1, 4, .inl (fun _ => 0))) := by rw [hu30]; exact (va_up_ne _ _ (Nat.ne_of_gt l_h0_q1)).trans f_q1
  replace f_q4 : u30 q4 = some (.inl (cs 0, 4, .inl (fun _ => 0))) := by rw [hu30]; exact (va_up_ne _ _ (Nat.ne_of_gt l_h0_q4)).trans f_q4
  replace f_q7 : u30 q7 = some (.inl (cs 0, 8, .inl (fun _ => 0))) := by rw [hu30]; exact (va_up_ne _ _ (Nat.ne_of_gt l_h0_q7)).trans f_q7
  replace f_q10 : u30 q10 = some (.inl (cs 0, 4, .inl (fun _ => 0))) := by rw [hu30]; exact (va_up_ne _ _ (Nat.ne_of_gt l_h0_q10)).trans f_q10
  replace f_q13 : u30 q13 = some (.inl (cs 0, 4, .inl (fun _ => 0))) := by rw [hu30]; exact (va_up_ne _ _ (Nat.ne_of_gt l_h0_q13)).trans f_q13
  replace f_q16 : u30 q16 = some (.inl (cs 0, 100, .inl (fun _ => 0))) := by rw [hu30]; exact (va_up_ne _ _ (Nat.ne_of_gt l_h0_q16)).trans f_q16
  replace f_q19 : u30 q19 = some (.inl (cs 0, 100, .inl (fun _ => 0))) := by rw [hu30]; exact (va_up_ne _ _ (Nat.ne_of_gt l_h0_q19)).trans f_q19
  replace f_q22 : u30 q22 = some (.inl (cs 1, 100, .inl (fun _ => 0))) := by rw [hu30]; exact (va_up_ne _ _ (Nat.ne_of_gt l_h0_q22)).trans f_q22
  replace f_q25 : u30 q25 = some (.inl (cs 0, 4, .inl (fun _ => 0))) := by rw [hu30]; exact (va_up_ne _ _ (Nat.ne_of_gt l_h0_q25)).trans f_q25
  replace f_q28 : u30 q28 = some (.inl (cs 0, 80, .inl (fun _ => 0))) := by rw [hu30]; exact (va_up_ne _ _ (Nat.ne_of_gt l_h0_q28)).trans f_q28
  replace f_h0 : u30 h0 = some (.inr (9, [.ref q1, .ref q4, .ref q7, .ref q10, .ref q13, .ref q16, .ref q19, .ref q22, .ref q25, .ref q28, .null, .null, .null, .null, .null, .null, .null, .null, .null, .int 0, .int 0, .int 0, .int 0, .int 0, .long 0, .null, .int 0, .int 0])) := by rw [hu30]; exact va_up_self _ _ _
  refine lv_aload_n hx hb dX9_init_79 rfl (lv_at hl 0 rfl) ?_
  refine lv_iconst (v := 4) hx hb dX9_init_80 (by decide) ?_
  have m_q1 := hF.lt f_q1
  have m_q4 := hF.lt f_q4
  have m_q7 := hF.lt f_q7
  have m_q10 := hF.lt f_q10
  have m_q13 := hF.lt f_q13
  have m_q16 := hF.lt f_q16
  have m_q19 := hF.lt f_q19
  have m_q22 := hF.lt f_q22
  have m_q25 := hF.lt f_q25
  have m_q28 := hF.lt f_q28
  have m_h0 := hF.lt f_h0
  refine fw_newa X hF hS (atype := .int) wm_85 rfl (fun _ h => by cases h) 0 rfl (N' := 4) (a0 := (4, .inl (fun _ => 0))) rfl (by decide) (by decide) (by decide) (Nat.le_of_ble_eq_true rfl) (Nat.le_of_ble_eq_true rfl) dX9_init_81 (fun q31 H nq31 zq31 zzq31 hF hS => ?_)
  have l_q1_q31 : q1 < q31 := Nat.lt_of_lt_of_le m_q1 (Nat.le_of_eq zq31.symm)
  have l_q4_q31 : q4 < q31 := Nat.lt_of_lt_of_le m_q4 (Nat.le_of_eq zq31.symm)
  have l_q7_q31 : q7 < q31 := Nat.lt_of_lt_of_le m_q7 (Nat.le_of_eq zq31.symm)
  have l_q10_q31 : q10 < q31 := Nat.lt_of_lt_of_le m_q10 (Nat.le_of_eq zq31.symm)
  have l_q13_q31 : q13 < q31 := Nat.lt_of_lt_of_le m_q13 (Nat.le_of_eq zq31.symm)
  have l_q16_q31 : q16 < q31 := Nat.lt_of_lt_of_le m_q16 (Nat.le_of_eq zq31.symm)
  have l_q19_q31 : q19 < q31 := Nat.lt_of_lt_of_le m_q19 (Nat.le_of_eq zq31.symm)
  have l_q22_q31 : q22 < q31 := Nat.lt_of_lt_of_le m_q22 (Nat.le_of_eq zq31.symm)
  have l_q25_q31 : q25 < q31 := Nat.lt_of_lt_of_le m_q25 (Nat.le_of_eq zq31.symm)
  have l_q28_q31 : q28 < q31 := Nat.lt_of_lt_of_le m_q28 (Nat.le_of_eq zq31.symm)
  have l_h0_q31 : h0 < q31 := Nat.lt_of_lt_of_le m_h0 (Nat.le_of_eq zq31.symm)
  clear m_q1 m_q4 m_q7 m_q10 m_q13 m_q16 m_q19 m_q22 m_q25 m_q28 m_h0
  have hF : fw_P D cls10 A (va_up u30 q31 (some (.inl (cs 0, 4, .inl (fun _ => 0))))) H := hF
  obtain ⟨u32, hu32⟩ : ∃ y : fW, y = va_up u30 q31 (some (.inl (cs 0, 4, .inl (fun _ => 0)))) := ⟨_, rfl⟩
  rw [← hu32] at hF
  replace f_q1 : u32 q1 = some (.inl (cs 1, 4, .inl (fun _ => 0))) := by rw [hu32]; exact (va_up_ne _ _ (Nat.ne_of_lt l_q1_q31)).trans f_q1
  replace f_q4 : u32 q4 = some (.inl (cs 0, 4, .inl (fun _ => 0))) := by rw [hu32]; exact (va_up_ne _ _ (Nat.ne_of_lt l_q4_q31)).trans f_q4
  replace f_q7 : u32 q7 = some (.inl (cs 0, 8, .inl (fun _ => 0))) := by rw [hu32]; exact (va_up_ne _ _ (Nat.ne_of_lt l_q7_q31)).trans f_q7
  replace f_q10 : u32 q10 = some (.inl (cs 0, 4, .inl (fun _ => 0))) := by rw [hu32]; exact (va_up_ne _ _ (Nat.ne_of_lt l_q10_q31)).trans f_q10
  replace f_q13 : u32 q13 = some (.inl (cs 0, 4, .inl (fun _ => 0))) := by rw [hu32]; exact (va_up_ne _ _ (Nat.ne_of_lt l_q13_q31)).trans f_q13
  replace f_q16 : u32 q16 = some (.inl (cs 0, 100, .inl (fun _ => 0))) := by rw [hu32]; exact (va_up_ne _ _ (Nat.ne_of_lt l_q16_q31)).trans f_q16
  replace f_q19 : u32 q19 = some (.inl (cs 0, 100, .inl (fun _ => 0))) := by rw [hu32]; exact (va_up_ne _ _ (Nat.ne_of_lt l_q19_q31)).trans f_q19
  replace f_q22 : u32 q22 = some (.inl (cs 1, 100, .inl (fun _ => 0))) := by rw [hu32]; exact (va_up_ne _ _ (Nat.ne_of_lt l_q22_q31)).trans f_q22
  replace f_q25 : u32 q25 = some (.inl (cs 0, 4, .inl (fun _ => 0))) := by rw [hu32]; exact (va_up_ne _ _ (Nat.ne_of_lt l_q25_q31)).trans f_q25
  replace f_q28 : u32 q28 = some (.inl (cs 0, 80, .inl (fun _ => 0))) := by rw [hu32]; exact (va_up_ne _ _ (Nat.ne_of_lt l_q28_q31)).trans f_q28
  replace f_h0 : u32 h0 = some (.inr (9, [.ref q1, .ref q4, .ref q7, .ref q10, .ref q13, .ref q16, .ref q19, .ref q22, .ref q25, .ref q28, .null, .null, .null, .null, .null, .null, .null, .null, .null, .int 0, .int 0, .int 0, .int 0, .int 0, .long 0, .null, .int 0, .int 0])) := by rw [hu32]; exact (va_up_ne _ _ (Nat.ne_of_lt l_h0_q31)).trans f_h0
  have f_q31 : u32 q31 = some (.inl (cs 0, 4, .inl (fun _ => 0))) := by rw [hu32]; exact va_up_self _ _ _
  refine fw_putF X gC_ok hF hS f_h0 rfl 10 (by decide) wm_489 rfl hnm rfl (tf := .array .int) (by decide +kernel) rfl rfl (Nat.le_of_ble_eq_true rfl) dX9_init_83 (fun H locs hF hS => ?_)
  have hF : fw_P D cls10 A (va_up u32 h0 (some (.inr (9, [.ref q1, .ref q4, .ref q7, .ref q10, .ref q13, .ref q16, .ref q19, .ref q22, .ref q25, .ref q28, .ref q31, .null, .null, .null, .null, .null, .null, .null, .null, .int 0, .int 0, .int 0, .int 0, .int 0, .long 0, .null, .int 0, .int 0])))) H := hF
  obtain ⟨u33, hu33⟩ : ∃ y : fW, y = va_up u32 h0 (some (.inr (9, [.ref q1, .ref q4, .ref q7, .ref q10, .ref q13, .ref q16, .ref q19, .ref q22, .ref q25, .ref q28, .ref q31, .null, .null, .null, .null, .null, .null, .null, .null, .int 0, .int 0, .int 0, .int 0, .int 0, .long 0, .null, .int 0, .int 0]))) := ⟨_, rfl⟩
  rw [← hu33] at hF
  replace f_q1 : u33 q1 = some (.inl (cs 1, 4, .inl (fun _ => 0))) := by rw [hu33]; exact (va_up_ne _ _ (Nat.ne_of_gt l_h0_q1)).trans f_q1
  replace f_q4 : u33 q4 = some (.inl (cs 0, 4, .inl (fun _ => 0))) := by rw [hu33]; exact (va_up_ne _ _ (Nat.ne_of_gt l_h0_q4)).trans f_q4
  replace f_q7 : u33 q7 = some (.inl (cs 0, 8, .inl (fun _ => 0))) := by rw [hu33]; exact (va_up_ne _ _ (Nat.ne_of_gt l_h0_q7)).trans f_q7
  replace f_q10 : u33 q10 = some (.inl (cs 0, 4, .inl (fun _ => 0))) := by rw [hu33]; exact (va_up_ne _ _ (Nat.ne_of_gt l_h0_q10)).trans f_q10
  replace f_q13 : u33 q13 = some (.inl (cs 0, 4, .inl (fun _ => 0))) := by rw [hu33]; exact (va_up_ne _ _ (Nat.ne_of_gt l_h0_q13)).trans f_q13
  replace f_q16 : u33 q16 = some (.inl (cs 0, 100, .inl (fun _ => 0))) := by rw [hu33]; exact (va_up_ne _ _ (Nat.ne_of_gt l_h0_q16)).trans f_q16
  replace f_q19 : u33 q19 = some (.inl (cs 0, 100, .inl (fun _ => 0))) := by rw [hu33]; exact (va_up_ne _ _ (Nat.ne_of_gt l_h0_q19)).trans f_q19
  replace f_q22 : u33 q22 = some (.inl (cs 1, 100, .inl (fun _ => 0))) := by rw [hu33]; exact (va_up_ne _ _ (Nat.ne_of_gt l_h0_q22)).trans f_q22
  replace f_q25 : u33 q25 = some (.inl (cs 0, 4, .inl (fun _ => 0))) := by rw [hu33]; exact (va_up_ne _ _ (Nat.ne_of_gt l_h0_q25)).trans f_q25
  replace f_q28 : u33 q28 = some (.inl (cs 0, 80, .inl (fun _ => 0))) := by rw [hu33]; exact (va_up_ne _ _ (Nat.ne_of_gt l_h0_q28)).trans f_q28
  replace f_q31 : u33 q31 = some (.inl (cs 0, 4, .inl (fun _ => 0))) := by rw [hu33]; exact (va_up_ne _ _ (Nat.ne_of_gt l_h0_q31)).trans f_q31
  replace f_h0 : u33 h0 = some (.inr (9, [.ref q1, .ref q4, .ref q7, .ref q10, .ref q13, .ref q16, .ref q19, .ref q22, .ref q25, .ref q28, .ref q31, .null, .null, .null, .null, .null, .null, .null, .null, .int 0, .int 0, .int 0, .int 0, .int 0, .long 0, .null, .int 0, .int 0])) := by rw [hu33]; exact va_up_self _ _ _
  refine lv_aload_n hx hb dX9_init_86 rfl (lv_at hl 0 rfl) ?_
  refine lv_iconst (v := 4) hx hb dX9_init_87 (by decide) ?_
  have m_q1 := hF.lt f_q1
  have m_q4 := hF.lt f_q4
  have m_q7 := hF.lt f_q7
  have m_q10 := hF.lt f_q10
  have m_q13 := hF.lt f_q13
  have m_q16 := hF.lt f_q16
  have m_q19 := hF.lt f_q19
  have m_q22 := hF.lt f_q22
  have m_q25 := hF.lt f_q25
  have m_q28 := hF.lt f_q28
  have m_q31 := hF.lt f_q31
  have m_h0 := hF.lt f_h0
  refine fw_newa X hF hS (atype := .boolean) wm_564 rfl (fun _ h => by cases h) 1 rfl (N' := 4) (a0 := (4, .inl (fun _ => 0))) rfl (by decide) (by decide) (by decide) (Nat.le_of_ble_eq_true rfl) (Nat.le_of_ble_eq_true rfl) dX9_init_88 (fun q34 H nq34 zq34 zzq34 hF hS => ?_)
  have l_q1_q34 : q1 < q34 := Nat.lt_of_lt_of_le m_q1 (Nat.le_of_eq zq34.symm)
  have l_q4_q34 : q4 < q34 := Nat.lt_of_lt_of_le m_q4 (Nat.le_of_eq zq34.symm)
  have l_q7_q34 : q7 < q34 := Nat.lt_of_lt_of_le m_q7 (Nat.le_of_eq zq34.symm)
  have l_q10_q34 : q10 < q34 := Nat.lt_of_lt_of_le m_q10 (Nat.le_of_eq zq34.symm)
  have l_q13_q34 : q13 < q34 := Nat.lt_of_lt_of_le m_q13 (Nat.le_of_eq zq34.symm)
  have l_q16_q34 : q16 < q34 := Nat.lt_of_lt_of_le m_q16 (Nat.le_of_eq zq34.symm)
  have l_q19_q34 : q19 < q34 := Nat.lt_of_lt_of_le m_q19 (Nat.le_of_eq zq34.symm)
  have l_q22_q34 : q22 < q34 := Nat.lt_of_lt_of_le m_q22 (Nat.le_of_eq zq34.symm)
  have l_q25_q34 : q25 < q34 := Nat.lt_of_lt_of_le m_q25 (Nat.le_of_eq zq34.symm)
  have l_q28_q34 : q28 < q34 := Nat.lt_of_lt_of_le m_q28 (Nat.le_of_eq zq34.symm)
  have l_q31_q34 : q31 < q34 := Nat.lt_of_lt_of_le m_q31 (Nat.le_of_eq zq34.symm)
  have l_h0_q34 : h0 < q34 := Nat.lt_of_lt_of_le m_h0 (Nat.le_of_eq zq34.symm)
  clear m_q1 m_q4 m_q7 m_q10 m_q13 m_q16 m_q19 m_q22 m_q25 m_q28 m_q31 m_h0
  have hF : fw_P D cls10 A (va_up u33 q34 (some (.inl (cs 1, 4, .inl (fun _ => 0))))) H := hF
  obtain ⟨u35, hu35⟩ : ∃ y : fW, y = va_up u33 q34 (some (.inl (cs 1, 4, .inl (fun _ => 0)))) := ⟨_, rfl⟩
  rw [← hu35] at hF
  replace f_q1 : u35 q1 = some (.inl (cs 1, 4, .inl (fun _ => 0))) := by rw [hu35]; exact (va_up_ne _ _ (Nat.ne_of_lt l_q1_q34)).trans f_q1
  replace f_q4 : u35 q4 = some (.inl (cs 0, 4, .inl (fun _ => 0))) := by rw [hu35]; exact (va_up_ne _ _ (Nat.ne_of_lt l_q4_q34)).trans f_q4
  replace f_q7 : u35 q7 = some (.inl (cs 0, 8, .inl (fun _ => 0))) := by rw [hu35]; exact (va_up_ne _ _ (Nat.ne_of_lt l_q7_q34)).trans f_q7
  replace f_q10 : u35 q10 = some (.inl (cs 0, 4, .inl (fun _ => 0))) := by rw [hu35]; exact (va_up_ne _ _ (Nat.ne_of_lt l_q10_q34)).trans f_q10
  replace f_q13 : u35 q13 = some (.inl (cs 0, 4, .inl (fun _ => 0))) := by rw [hu35]; exact (va_up_ne _ _ (Nat.ne_of_lt l_q13_q34)).trans f_q13
  replace f_q16 : u35 q16 = some (.inl (cs 0, 100, .inl (fun _ => 0))) := by rw [hu35]; exact (va_up_ne _ _ (Nat.ne_of_lt l_q16_q34)).trans f_q16
  replace f_q19 : u35 q19 = some (.inl (cs 0, 100, .inl (fun _ => 0))) := by rw [hu35]; exact (va_up_ne _ _ (Nat.ne_of_lt l_q19_q34)).trans f_q19
  replace f_q22 : u35 q22 = some (.inl (cs 1, 100, .inl (fun _ => 0))) := by rw [hu35]; exact (va_up_ne _ _ (Nat.ne_of_lt l_q22_q34)).trans f_q22
  replace f_q25 : u35 q25 = some (.inl (cs 0, 4, .inl (fun _ => 0))) := by rw [hu35]; exact (va_up_ne _ _ (Nat.ne_of_lt l_q25_q34)).trans f_q25
  replace f_q28 : u35 q28 = some (.inl (cs 0, 80, .inl (fun _ => 0))) := by rw [hu35]; exact (va_up_ne _ _ (Nat.ne_of_lt l_q28_q34)).trans f_q28
  replace f_q31 : u35 q31 = some (.inl (cs 0, 4, .inl (fun _ => 0))) := by rw [hu35]; exact (va_up_ne _ _ (Nat.ne_of_lt l_q31_q34)).trans f_q31
  replace f_h0 : u35 h0 = some (.inr (9, [.ref q1, .ref q4, .ref q7, .ref q10, .ref q13, .ref q16, .ref q19, .ref q22, .ref q25, .ref q28, .ref q31, .null, .null, .null, .null, .null, .null, .null, .null, .int 0, .int 0, .int 0, .int 0, .int 0, .long 0, .null, .int 0, .int 0])) := by rw [hu35]; exact (va_up_ne _ _ (Nat.ne_of_lt l_h0_q34)).trans f_h0
  have f_q34 : u35 q34 = some (.inl (cs 1, 4, .inl (fun _ => 0))) := by rw [hu35]; exact va_up_self _ _ _
  refine fw_putF X gC_ok hF hS f_h0 rfl 11 (by decide) wm_490 rfl hnm rfl (tf := .array .boolean) (by decide +kernel) rfl rfl (Nat.le_of_ble_eq_true rfl) dX9_init_90 (fun H locs hF hS => ?_)
  have hF : fw_P D cls10 A (va_up u35 h0 (some (.inr (9, [.ref q1, .ref q4, .ref q7, .ref q10, .ref q13, .ref q16, .ref q19, .ref q22, .ref q25, .ref q28, .ref q31, .ref q34, .null, .null, .null, .null, .null, .null, .null, .int 0, .int 0, .int 0, .int 0, .int 0, .long 0, .null, .int 0, .int 0])))) H := hF
  obtain ⟨u36, hu36⟩ : ∃ y : fW, y = va_up u35 h0 (some (.inr (9, [.ref q1, .ref q4, .ref q7, .ref q10, .ref q13, .ref q16, .ref q19, .ref q22, .ref q25, .ref q28, .ref q31, .ref q34, .null, .null, .null, .null, .null, .null, .null, .int 0, .int 0, .int 0, .int 0, .int 0, .long 0, .null, .int 0, .int 0]))) := ⟨_, rfl⟩
  rw [← hu36] at hF
  replace f_q1 : u36 q1 = some (.inl (cs 1, 4, .inl (fun _ => 0))) := by rw [hu36]; exact (va_up_ne _ _ (Nat.ne_of_gt l_h0_q1)).trans f_q1
  replace f_q4 : u36 q4 = some (.inl (cs 0, 4, .inl (fun _ => 0))) := by rw [hu36]; exact (va_up_ne _ _ (Nat.ne_of_gt l_h0_q4)).trans f_q4
  replace f_q7 : u36 q7 = some (.inl (cs 0, 8, .inl (fun _ => 0))) := by rw [hu36]; exact (va_up_ne _ _ (Nat.ne_of_gt l_h0_q7)).trans f_q7
  replace f_q10 : u36 q10 = some (.inl (cs 0, 4, .inl (fun _ => 0))) := by rw [hu36]; exact (va_up_ne _ _ (Nat.ne_of_gt l_h0_q10)).trans f_q10
  replace f_q13 : u36 q13 = some (.inl (cs 0, 4, .inl (fun _ => 0))) := by rw [hu36]; exact (va_up_ne _ _ (Nat.ne_of_gt l_h0_q13)).trans f_q13
  replace f_q16 : u36 q16 = some (.inl (cs 0, 100, .inl (fun _ => 0))) := by rw [hu36]; exact (va_up_ne _ _ (Nat.ne_of_gt l_h0_q16)).trans f_q16
  replace f_q19 : u36 q19 = some (.inl (cs 0, 100, .inl (fun _ => 0))) := by rw [hu36]; exact (va_up_ne _ _ (Nat.ne_of_gt l_h0_q19)).trans f_q19
  replace f_q22 : u36 q22 = some (.inl (cs 1, 100, .inl (fun _ => 0))) := by rw [hu36]; exact (va_up_ne _ _ (Nat.ne_of_gt l_h0_q22)).trans f_q22
  replace f_q25 : u36 q25 = some (.inl (cs 0, 4, .inl (fun _ => 0))) := by rw [hu36]; exact (va_up_ne _ _ (Nat.ne_of_gt l_h0_q25)).trans f_q25
  replace f_q28 : u36 q28 = some (.inl (cs 0, 80, .inl (fun _ => 0))) := by rw [hu36]; exact (va_up_ne _ _ (Nat.ne_of_gt l_h0_q28)).trans f_q28
  replace f_q31 : u36 q31 = some (.inl (cs 0, 4, .inl (fun _ => 0))) := by rw [hu36]; exact (va_up_ne _ _ (Nat.ne_of_gt l_h0_q31)).trans f_q31
  replace f_q34 : u36 q34 = some (.inl (cs 1, 4, .inl (fun _ => 0))) := by rw [hu36]; exact (va_up_ne _ _ (Nat.ne_of_gt l_h0_q34)).trans f_q34
  replace f_h0 : u36 h0 = some (.inr (9, [.ref q1, .ref q4, .ref q7, .ref q10, .ref q13, .ref q16, .ref q19, .ref q22, .ref q25, .ref q28, .ref q31, .ref q34, .null, .null, .null, .null, .null, .null, .null, .int 0, .int 0, .int 0, .int 0, .int 0, .long 0, .null, .int 0, .int 0])) := by rw [hu36]; exact va_up_self _ _ _
  refine lv_aload_n hx hb dX9_init_93 rfl (lv_at hl 0 rfl) ?_
  refine lv_bipush (v := 80) hx hb dX9_init_94 (by decide) ?_
  have m_q1 := hF.lt f_q1
  have m_q4 := hF.lt f_q4
  have m_q7 := hF.lt f_q7
  have m_q10 := hF.lt f_q10
  have m_q13 := hF.lt f_q13
  have m_q16 := hF.lt f_q16
  have m_q19 := hF.lt f_q19
  have m_q22 := hF.lt f_q22
  have m_q25 := hF.lt f_q25
  have m_q28 := hF.lt f_q28
  have m_q31 := hF.lt f_q31
  have m_q34 := hF.lt f_q34
  have m_h0 := hF.lt f_h0
  refine fw_newa X hF hS (atype := .int) wm_85 rfl (fun _ h => by cases h) 0 rfl (N' := 80) (a0 := (80, .inl (fun _ => 0))) rfl (by decide) (by decide) (by decide) (Nat.le_of_ble_eq_true rfl) (Nat.le_of_ble_eq_true rfl) dX9_init_96 (fun q37 H nq37 zq37 zzq37 hF hS => ?_)
  have l_q1_q37 : q1 < q37 := Nat.lt_of_lt_of_le m_q1 (Nat.le_of_eq zq37.symm)
  have l_q4_q37 : q4 < q37 := Nat.lt_of_lt_of_le m_q4 (Nat.le_of_eq zq37.symm)
  have l_q7_q37 : q7 < q37 := Nat.lt_of_lt_of_le m_q7 (Nat.le_of_eq zq37.symm)
  have l_q10_q37 : q10 < q37 := Nat.lt_of_lt_of_le m_q10 (Nat.le_of_eq zq37.symm)
  have l_q13_q37 : q13 < q37 := Nat.lt_of_lt_of_le m_q13 (Nat.le_of_eq zq37.symm)
  have l_q16_q37 : q16 < q37 := Nat.lt_of_lt_of_le m_q16 (Nat.le_of_eq zq37.symm)
  have l_q19_q37 : q19 < q37 := Nat.lt_of_lt_of_le m_q19 (Nat.le_of_eq zq37.symm)
  have l_q22_q37 : q22 < q37 := Nat.lt_of_lt_of_le m_q22 (Nat.le_of_eq zq37.symm)
  have l_q25_q37 : q25 < q37 := Nat.lt_of_lt_of_le m_q25 (Nat.le_of_eq zq37.symm)
  have l_q28_q37 : q28 < q37 := Nat.lt_of_lt_of_le m_q28 (Nat.le_of_eq zq37.symm)
  have l_q31_q37 : q31 < q37 := Nat.lt_of_lt_of_le m_q31 (Nat.le_of_eq zq37.symm)
  have l_q34_q37 : q34 < q37 := Nat.lt_of_lt_of_le m_q34 (Nat.le_of_eq zq37.symm)
  have l_h0_q37 : h0 < q37 := Nat.lt_of_lt_of_le m_h0 (Nat.le_of_eq zq37.symm)
  clear m_q1 m_q4 m_q7 m_q10 m_q13 m_q16 m_q19 m_q22 m_q25 m_q28 m_q31 m_q34 m_h0
  have hF : fw_P D cls10 A (va_up u36 q37 (some (.inl (cs 0, 80, .inl (fun _ => 0))))) H := hF
  obtain ⟨u38, hu38⟩ : ∃ y : fW, y = va_up u36 q37 (some (.inl (cs 0, 80, .inl (fun _ => 0)))) := ⟨_, rfl⟩
  rw [← hu38] at hF
  replace f_q1 : u38 q1 = some (.inl (cs 1, 4, .inl (fun _ => 0))) := by rw [hu38]; exact (va_up_ne _ _ (Nat.ne_of_lt l_q1_q37)).trans f_q1
  replace f_q4 : u38 q4 = some (.inl (cs 0, 4, .inl (fun _ => 0))) := by rw [hu38]; exact (va_up_ne _ _ (Nat.ne_of_lt l_q4_q37)).trans f_q4
  replace f_q7 : u38 q7 = some (.inl (cs 0, 8, .inl (fun _ => 0))) := by rw [hu38]; exact (va_up_ne _ _ (Nat.ne_of_lt l_q7_q37)).trans f_q7
  replace f_q10 : u38 q10 = some (.inl (cs 0, 4, .inl (fun _ => 0))) := by rw [hu38]; exact (va_up_ne _ _ (Nat.ne_of_lt l_q10_q37)).trans f_q10
  replace f_q13 : u38 q13 = some (.inl (cs 0, 4, .inl (fun _ => 0))) := by rw [hu38]; exact (va_up_ne _ _ (Nat.ne_of_lt l_q13_q37)).trans f_q13
  replace f_q16 : u38 q16 = some (.inl (cs 0, 100, .inl (fun _ => 0))) := by rw [hu38]; exact (va_up_ne _ _ (Nat.ne_of_lt l_q16_q37)).trans f_q16
  replace f_q19 : u38 q19 = some (.inl (cs 0, 100, .inl (fun _ => 0))) := by rw [hu38]; exact (va_up_ne _ _ (Nat.ne_of_lt l_q19_q37)).trans f_q19
  replace f_q22 : u38 q22 = some (.inl (cs 1, 100, .inl (fun _ => 0))) := by rw [hu38]; exact (va_up_ne _ _ (Nat.ne_of_lt l_q22_q37)).trans f_q22
  replace f_q25 : u38 q25 = some (.inl (cs 0, 4, .inl (fun _ => 0))) := by rw [hu38]; exact (va_up_ne _ _ (Nat.ne_of_lt l_q25_q37)).trans f_q25
  replace f_q28 : u38 q28 = some (.inl (cs 0, 80, .inl (fun _ => 0))) := by rw [hu38]; exact (va_up_ne _ _ (Nat.ne_of_lt l_q28_q37)).trans f_q28
  replace f_q31 : u38 q31 = some (.inl (cs 0, 4, .inl (fun _ => 0))) := by rw [hu38]; exact (va_up_ne _ _ (Nat.ne_of_lt l_q31_q37)).trans f_q31
  replace f_q34 : u38 q34 = some (.inl (cs 1, 4, .inl (fun _ => 0))) := by rw [hu38]; exact (va_up_ne _ _ (Nat.ne_of_lt l_q34_q37)).trans f_q34
  replace f_h0 : u38 h0 = some (.inr (9, [.ref q1, .ref q4, .ref q7, .ref q10, .ref q13, .ref q16, .ref q19, .ref q22, .ref q25, .ref q28, .ref q31, .ref q34, .null, .null, .null, .null, .null, .null, .null, .int 0, .int 0, .int 0, .int 0, .int 0, .long 0, .null, .int 0, .int 0])) := by rw [hu38]; exact (va_up_ne _ _ (Nat.ne_of_lt l_h0_q37)).trans f_h0
  have f_q37 : u38 q37 = some (.inl (cs 0, 80, .inl (fun _ => 0))) := by rw [hu38]; exact va_up_self _ _ _
  refine fw_putF X gC_ok hF hS f_h0 rfl 12 (by decide) wm_491 rfl hnm rfl (tf := .array .int) (by decide +kernel) rfl rfl (Nat.le_of_ble_eq_true rfl) dX9_init_98 (fun H locs hF hS => ?_)
  have hF : fw_P D cls10 A (va_up u38 h0 (some (.inr (9, [.ref q1, .ref q4, .ref q7, .ref q10, .ref q13, .ref q16, .ref q19, .ref q22, .ref q25, .ref q28, .ref q31, .ref q34, .ref q37, .null, .null, .null, .null, .null, .null, .int 0, .int 0, .int 0, .int 0, .int 0, .long 0, .null, .int 0, .int 0])))) H := hF
  obtain ⟨u39, hu39⟩ : ∃ y : fW, y = va_up u38 h0 (some (.inr (9, [.ref q1, .ref q4, .ref q7, .ref q10, .ref q13, .ref q16, .ref q19, .ref q22, .ref q25, .ref q28, .ref q31, .ref q34, .ref q37, .null, .null, .null, .null, .null, .null, .int 0, .int 0, .int 0, .int 0, .int 0, .long 0, .null, .int 0, .int 0]))) := ⟨_, rfl⟩
  rw [← hu39] at hF
  replace f_q1 : u39 q1 = some (.inl (cs 1, 4, .inl (fun _ => 0))) := by rw [hu39]; exact (va_up_ne _ _ (Nat.ne_of_gt l_h0_q1)).trans f_q1
  replace f_q4 : u39 q4 = some (.inl (cs 0, 4, .inl (fun _ => 0))) := by rw [hu39]; exact (va_up_ne _ _ (Nat.ne_of_gt l_h0_q4)).trans f_q4
  replace f_q7 : u39 q7 = some (.inl (cs 0, 8, .inl (fun _ => 0))) := by rw [hu39]; exact (va_up_ne _ _ (Nat.ne_of_gt l_h0_q7)).trans f_q7
  replace f_q10 : u39 q10 = some (.inl (cs 0, 4, .inl (fun _ => 0))) := by rw [hu39]; exact (va_up_ne _ _ (Nat.ne_of_gt l_h0_q10)).trans f_q10
  replace f_q13 : u39 q13 = some (.inl (cs 0, 4, .inl (fun _ => 0))) := by rw [hu39]; exact (va_up_ne _ _ (Nat.ne_of_gt l_h0_q13)).trans f_q13
  replace f_q16 : u39 q16 = some (.inl (cs 0, 100, .inl (fun _ => 0))) := by rw [hu39]; exact (va_up_ne _ _ (Nat.ne_of_gt l_h0_q16)).trans f_q16
  replace f_q19 : u39 q19 = some (.inl (cs 0, 100, .inl (fun _ => 0))) := by rw [hu39]; exact (va_up_ne _ _ (Nat.ne_of_gt l_h0_q19)).trans f_q19
  replace f_q22 : u39 q22 = some (.inl (cs 1, 100, .inl (fun _ => 0))) := by rw [hu39]; exact (va_up_ne _ _ (Nat.ne_of_gt l_h0_q22)).trans f_q22
  replace f_q25 : u39 q25 = some (.inl (cs 0, 4, .inl (fun _ => 0))) := by rw [hu39]; exact (va_up_ne _ _ (Nat.ne_of_gt l_h0_q25)).trans f_q25
  replace f_q28 : u39 q28 = some (.inl (cs 0, 80, .inl (fun _ => 0))) := by rw [hu39]; exact (va_up_ne _ _ (Nat.ne_of_gt l_h0_q28)).trans f_q28
  replace f_q31 : u39 q31 = some (.inl (cs 0, 4, .inl (fun _ => 0))) := by rw [hu39]; exact (va_up_ne _ _ (Nat.ne_of_gt l_h0_q31)).trans f_q31
  replace f_q34 : u39 q34 = some (.inl (cs 1, 4, .inl (fun _ => 0))) := by rw [hu39]; exact (va_up_ne _ _ (Nat.ne_of_gt l_h0_q34)).trans f_q34
  replace f_q37 : u39 q37 = some (.inl (cs 0, 80, .inl (fun _ => 0))) := by rw [hu39]; exact (va_up_ne _ _ (Nat.ne_of_gt l_h0_q37)).trans f_q37
  replace f_h0 : u39 h0 = some (.inr (9, [.ref q1, .ref q4, .ref q7, .ref q10, .ref q13, .ref q16, .ref q19, .ref q22, .ref q25, .ref q28, .ref q31, .ref q34, .ref q37, .null, .null, .null, .null, .null, .null, .int 0, .int 0, .int 0, .int 0, .int 0, .long 0, .null, .int 0, .int 0])) := by rw [hu39]; exact va_up_self _ _ _
  refine lv_aload_n hx hb dX9_init_101 rfl (lv_at hl 0 rfl) ?_
  refine lv_iconst (v := 4) hx hb dX9_init_102 (by decide) ?_
  have m_q1 := hF.lt f_q1
  have m_q4 := hF.lt f_q4
  have m_q7 := hF.lt f_q7
  have m_q10 := hF.lt f_q10
  have m_q13 := hF.lt f_q13
  have m_q16 := hF.lt f_q16
  have m_q19 := hF.lt f_q19
  have m_q22 := hF.lt f_q22
  have m_q25 := hF.lt f_q25
  have m_q28 := hF.lt f_q28
  have m_q31 := hF.lt f_q31
  have m_q34 := hF.lt f_q34
  have m_q37 := hF.lt f_q37
  have m_h0 := hF.lt f_h0
  refine fw_newa X hF hS (atype := .int) wm_85 rfl (fun _ h => by cases h) 0 rfl (N' := 4) (a0 := (4, .inl (fun _ => 0))) rfl (by decide) (by decide) (by decide) (Nat.le_of_ble_eq_true rfl) (Nat.le_of_ble_eq_true rfl) dX9_init_103 (fun q40 H nq40 zq40 zzq40 hF hS => ?_)
  have l_q1_q40 : q1 < q40 := Nat.lt_of_lt_of_le m_q1 (Nat.le_of_eq zq40.symm)
  have l_q4_q40 : q4 < q40 := Nat.lt_of_lt_of_le m_q4 (Nat.le_of_eq zq40.symm)
  have l_q7_q40 : q7 < q40 := Nat.lt_of_lt_of_le m_q7 (Nat.le_of_eq zq40.symm)
  have l_q10_q40 : q10 < q40 := Nat.lt_of_lt_of_le m_q10 (Nat.le_of_eq zq40.symm)
  have l_q13_q40 : q13 < q40 := Nat.lt_of_lt_of_le m_q13 (Nat.le_of_eq zq40.symm)
  have l_q16_q40 : q16 < q40 := Nat.lt_of_lt_of_le m_q16 (Nat.le_of_eq zq40.symm)
  have l_q19_q40 : q19 < q40 := Nat.lt_of_lt_of_le m_q19 (Nat.le_of_eq zq40.symm)
  have l_q22_q40 : q22 < q40 := Nat.lt_of_lt_of_le m_q22 (Nat.le_of_eq zq40.symm)
  have l_q25_q40 : q25 < q40 := Nat.lt_of_lt_of_le m_q25 (Nat.le_of_eq zq40.symm)
  have l_q28_q40 : q28 < q40 := Nat.lt_of_lt_of_le m_q28 (Nat.le_of_eq zq40.symm)
  have l_q31_q40 : q31 < q40 := Nat.lt_of_lt_of_le m_q31 (Nat.le_of_eq zq40.symm)
  have l_q34_q40 : q34 < q40 := Nat.lt_of_lt_of_le m_q34 (Nat.le_of_eq zq40.symm)
  have l_q37_q40 : q37 < q40 := Nat.lt_of_lt_of_le m_q37 (Nat.le_of_eq zq40.symm)
  have l_h0_q40 : h0 < q40 := Nat.lt_of_lt_of_le m_h0 (Nat.le_of_eq zq40.symm)
  clear m_q1 m_q4 m_q7 m_q10 m_q13 m_q16 m_q19 m_q22 m_q25 m_q28 m_q31 m_q34 m_q37 m_h0
  have hF : fw_P D cls10 A (va_up u39 q40 (some (.inl (cs 0, 4, .inl (fun _ => 0))))) H := hF
  obtain ⟨u41, hu41⟩ : ∃ y : fW, y = va_up u39 q40 (some (.inl (cs 0, 4, .inl (fun _ => 0)))) := ⟨_, rfl⟩
  rw [← hu41] at hF
  replace f_q1 : u41 q1 = some (.inl (cs 1, 4, .inl (fun _ => 0))) := by rw [hu41]; exact (va_up_ne _ _ (Nat.ne_of_lt l_q1_q40)).trans f_q1
  replace f_q4 : u41 q4 = some (.inl (cs 0, 4, .inl (fun _ => 0))) := by rw [hu41]; exact (va_up_ne _ _ (Nat.ne_of_lt l_q4_q40)).trans f_q4
  replace f_q7 : u41 q7 = some (.inl (cs 0, 8, .inl (fun _ => 0))) := by rw [hu41]; exact (va_up_ne _ _ (Nat.ne_of_lt l_q7_q40)).trans f_q7
  replace f_q10 : u41 q10 = some (.inl (cs 0, 4, .inl (fun _ => 0))) := by rw [hu41]; exact (va_up_ne _ _ (Nat.ne_of_lt l_q10_q40)).trans f_q10
  replace f_q13 : u41 q13 = some (.inl (cs 0, 4, .inl (fun _ => 0))) := by rw [hu41]; exact (va_up_ne _ _ (Nat.ne_of_lt l_q13_q40)).trans f_q13
  replace f_q16 : u41 q16 = some (.inl (cs 0, 100, .inl (fun _ => 0))) := by rw [hu41]; exact (va_up_ne _ _ (Nat.ne_of_lt l_q16_q40)).trans f_q16
  replace f_q19 : u41 q19 = some (.inl (cs 0, 100, .inl (fun _ => 0))) := by rw [hu41]; exact (va_up_ne _ _ (Nat.ne_of_lt l_q19_q40)).trans f_q19
  replace f_q22 : u41 q22 = some (.inl (cs 1, 100, .inl (fun _ => 0))) := by rw [hu41]; exact (va_up_ne _ _ (Nat.ne_of_lt l_q22_q40)).trans f_q22
  replace f_q25 : u41 q25 = some (.inl (cs 0, 4, .inl (fun _ => 0))) := by rw [hu41]; exact (va_up_ne _ _ (Nat.ne_of_lt l_q25_q40)).trans f_q25
  replace f_q28 : u41 q28 = some (.inl (cs 0, 80, .inl (fun _ => 0))) := by rw [hu41]; exact (va_up_ne _ _ (Nat.ne_of_lt l_q28_q40)).trans f_q28
  replace f_q31 : u41 q31 = some (.inl (cs 0, 4, .inl (fun _ => 0))) := by rw [hu41]; exact (va_up_ne _ _ (Nat.ne_of_lt l_q31_q40)).trans f_q31
  replace f_q34 : u41 q34 = some (.inl (cs 1, 4, .inl (fun _ => 0))) := by rw [hu41]; exact (va_up_ne _ _ (Nat.ne_of_lt l_q34_q40)).trans f_q34
  replace f_q37 : u41 q37 = some (.inl (cs 0, 80, .inl (fun _ => 0))) := by rw [hu41]; exact (va_up_ne _ _ (Nat.ne_of_lt l_q37_q40)).trans f_q37
  replace f_h0 : u41 h0 = some (.inr (9, [.ref q1, .ref q4, .ref q7, .ref q10, .ref q13, .ref q16, .ref q19, .ref q22, .ref q25, .ref q28, .ref q31, .ref q34, .ref q37, .null, .null, .null, .null, .null, .null, .int 0, .int 0, .int 0, .int 0, .int 0, .long 0, .null, .int 0, .int 0])) := by rw [hu41]; exact (va_up_ne _ _ (Nat.ne_of_lt l_h0_q40)).trans f_h0
  have f_q40 : u41 q40 = some (.inl (cs 0, 4, .inl (fun _ => 0))) := by rw [hu41]; exact va_up_self _ _ _
  refine fw_putF X gC_ok hF hS f_h0 rfl 13 (by decide) wm_492 rfl hnm rfl (tf := .array .int) (by decide +kernel) rfl rfl (Nat.le_of_ble_eq_true rfl) dX9_init_105 (fun H locs hF hS => ?_)
  have hF : fw_P D cls10 A (va_up u41 h0 (some (.inr (9, [.ref q1, .ref q4, .ref q7, .ref q10, .ref q13, .ref q16, .ref q19, .ref q22, .ref q25, .ref q28, .ref q31, .ref q34, .ref q37, .ref q40, .null, .null, .null, .null, .null, .int 0, .int 0, .int 0, .int 0, .int 0, .long 0, .null, .int 0, .int 0])))) H := hF
  obtain ⟨u42, hu42⟩ : ∃ y : fW, y = va_up u41 h0 (some (.inr (9, [.ref q1, .ref q4, .ref q7, .ref q10, .ref q13, .ref q16, .ref q19, .ref q22, .ref q25, .ref q28, .ref q31, .ref q34, .ref q37, .ref q40, .null, .null, .null, .null, .null, .int 0, .int 0, .int 0, .int 0, .int 0, .long 0, .null, .int 0, .int 0]))) := ⟨_, rfl⟩
  rw [← hu42] at hF
  replace f_q1 : u42 q1 = some (.inl (cs 1, 4, .inl (fun _ => 0))) := by rw [hu42]; exact (va_up_ne _ _ (Nat.ne_of_gt l_h0_q1)).trans f_q1
  replace f_q4 : u42 q4 = some (.inl (cs 0, 4, .inl (fun _ => 0))) := by rw [hu42]; exact (va_up_ne _ _ (Nat.ne_of_gt l_h0_q4)).trans f_q4
  replace f_q7 : u42 q7 = some (.inl (cs 0, 8, .inl (fun _ => 0))) := by rw [hu42]; exact (va_up_ne _ _ (Nat.ne_of_gt l_h0_q7)).trans f_q7
  replace f_q10 : u42 q10 = some (.inl (cs 0, 4, .inl (fun _ => 0))) := by rw [hu42]; exact (va_up_ne _ _ (Nat.ne_of_gt l_h0_q10)).trans f_q10
  replace f_q13 : u42 q13 = some (.inl (cs 0, 4, .inl (fun _ => 0))) := by rw [hu42]; exact (va_up_ne _ _ (Nat.ne_of_gt l_h0_q13)).trans f_q13
  replace f_q16 : u42 q16 = some (.inl (cs 0, 100, .inl (fun _ => 0))) := by rw [hu42]; exact (va_up_ne _ _ (Nat.ne_of_gt l_h0_q16)).trans f_q16
  replace f_q19 : u42 q19 = some (.inl (cs 0, 100, .inl (fun _ => 0))) := by rw [hu42]; exact (va_up_ne _ _ (Nat.ne_of_gt l_h0_q19)).trans f_q19
  replace f_q22 : u42 q22 = some (.inl (cs 1, 100, .inl (fun _ => 0))) := by rw [hu42]; exact (va_up_ne _ _ (Nat.ne_of_gt l_h0_q22)).trans f_q22
  replace f_q25 : u42 q25 = some (.inl (cs 0, 4, .inl (fun _ => 0))) := by rw [hu42]; exact (va_up_ne _ _ (Nat.ne_of_gt l_h0_q25)).trans f_q25
  replace f_q28 : u42 q28 = some (.inl (cs 0, 80, .inl (fun _ => 0))) := by rw [hu42]; exact (va_up_ne _ _ (Nat.ne_of_gt l_h0_q28)).trans f_q28
  replace f_q31 : u42 q31 = some (.inl (cs 0, 4, .inl (fun _ => 0))) := by rw [hu42]; exact (va_up_ne _ _ (Nat.ne_of_gt l_h0_q31)).trans f_q31
  replace f_q34 : u42 q34 = some (.inl (cs 1, 4, .inl (fun _ => 0))) := by rw [hu42]; exact (va_up_ne _ _ (Nat.ne_of_gt l_h0_q34)).trans f_q34
  replace f_q37 : u42 q37 = some (.inl (cs 0, 80, .inl (fun _ => 0))) := by rw [hu42]; exact (va_up_ne _ _ (Nat.ne_of_gt l_h0_q37)).trans f_q37
  replace f_q40 : u42 q40 = some (.inl (cs 0, 4, .inl (fun _ => 0))) := by rw [hu42]; exact (va_up_ne _ _ (Nat.ne_of_gt l_h0_q40)).trans f_q40
  replace f_h0 : u42 h0 = some (.inr (9, [.ref q1, .ref q4, .ref q7, .ref q10, .ref q13, .ref q16, .ref q19, .ref q22, .ref q25, .ref q28, .ref q31, .ref q34, .ref q37, .ref q40, .null, .null, .null, .null, .null, .int 0, .int 0, .int 0, .int 0, .int 0, .long 0, .null, .int 0, .int 0])) := by rw [hu42]; exact va_up_self _ _ _
  refine lv_aload_n hx hb dX9_init_108 rfl (lv_at hl 0 rfl) ?_
  refine lv_iconst (v := 4) hx hb dX9_init_109 (by decide) ?_
  have m_q1 := hF.lt f_q1
  have m_q4 := hF.lt f_q4
  have m_q7 := hF.lt f_q7
  have m_q10 := hF.lt f_q10
  have m_q13 := hF.lt f_q13
  have m_q16 := hF.lt f_q16
  have m_q19 := hF.lt f_q19
  have m_q22 := hF.lt f_q22
  have m_q25 := hF.lt f_q25
  have m_q28 := hF.lt f_q28
  have m_q31 := hF.lt f_q31
  have m_q34 := hF.lt f_q34
  have m_q37 := hF.lt f_q37
  have m_q40 := hF.lt f_q40
  have m_h0 := hF.lt f_h0
  refine fw_newa X hF hS (atype := .int) wm_85 rfl (fun _ h => by cases h) 0 rfl (N' := 4) (a0 := (4, .inl (fun _ => 0))) rfl (by decide) (by decide) (by decide) (Nat.le_of_ble_eq_true rfl) (Nat.le_of_ble_eq_true rfl) dX9_init_110 (fun q43 H nq43 zq43 zzq43 hF hS => ?_)
  have l_q1_q43 : q1 < q43 := Nat.lt_of_lt_of_le m_q1 (Nat.le_of_eq zq43.symm)
  have l_q4_q43 : q4 < q43 := Nat.lt_of_lt_of_le m_q4 (Nat.le_of_eq zq43.symm)
  have l_q7_q43 : q7 < q43 := Nat.lt_of_lt_of_le m_q7 (Nat.le_of_eq zq43.symm)
  have l_q10_q43 : q10 < q43 := Nat.lt_of_lt_of_le m_q10 (Nat.le_of_eq zq43.symm)
  have l_q13_q43 : q13 < q43 := Nat.lt_of_lt_of_le m_q13 (Nat.le_of_eq zq43.symm)
  have l_q16_q43 : q16 < q43 := Nat.lt_of_lt_of_le m_q16 (Nat.le_of_eq zq43.symm)
  have l_q19_q43 : q19 < q43 := Nat.lt_of_lt_of_le m_q19 (Nat.le_of_eq zq43.symm)
  have l_q22_q43 : q22 < q43 := Nat.lt_of_lt_of_le m_q22 (Nat.le_of_eq zq43.symm)
  have l_q25_q43 : q25 < q43 := Nat.lt_of_lt_of_le m_q25 (Nat.le_of_eq zq43.symm)
  have l_q28_q43 : q28 < q43 := Nat.lt_of_lt_of_le m_q28 (Nat.le_of_eq zq43.symm)
  have l_q31_q43 : q31 < q43 := Nat.lt_of_lt_of_le m_q31 (Nat.le_of_eq zq43.symm)
  have l_q34_q43 : q34 < q43 := Nat.lt_of_lt_of_le m_q34 (Nat.le_of_eq zq43.symm)
  have l_q37_q43 : q37 < q43 := Nat.lt_of_lt_of_le m_q37 (Nat.le_of_eq zq43.symm)
  have l_q40_q43 : q40 < q43 := Nat.lt_of_lt_of_le m_q40 (Nat.le_of_eq zq43.symm)
  have l_h0_q43 : h0 < q43 := Nat.lt_of_lt_of_le m_h0 (Nat.le_of_eq zq43.symm)
  clear m_q1 m_q4 m_q7 m_q10 m_q13 m_q16 m_q19 m_q22 m_q25 m_q28 m_q31 m_q34 m_q37 m_q40 m_h0
  have hF : fw_P D cls10 A (va_up u42 q43 (some (.inl (cs 0, 4, .inl (fun _ => 0))))) H := hF
  obtain ⟨u44, hu44⟩ : ∃ y : fW, y = va_up u42 q43 (some (.inl (cs 0, 4, .inl (fun _ => 0)))) := ⟨_, rfl⟩
  rw [← hu44] at hF
  replace f_q1 : u44 q1 = some (.inl (cs 1, 4, .inl (fun _ => 0))) := by rw [hu44]; exact (va_up_ne _ _ (Nat.ne_of_lt l_q1_q43)).trans f_q1
  replace f_q4 : u44 q4 = some (.inl (cs 0, 4, .inl (fun _ => 0))) := by rw [hu44]; exact (va_up_ne _ _ (Nat.ne_of_lt l_q4_q43)).trans f_q4
  replace f_q7 : u44 q7 = some (.inl (cs 0, 8, .inl (fun _ => 0))) := by rw [hu44]; exact (va_up_ne _ _ (Nat.ne_of_lt l_q7_q43)).trans f_q7
  replace f_q10 : u44 q10 = some (.inl (cs 0, 4, .inl (fun _ => 0))) := by rw [hu44]; exact (va_up_ne _ _ (Nat.ne_of_lt l_q10_q43)).trans f_q10
  replace f_q13 : u44 q13 = some (.inl (cs 0, 4, .inl (fun _ => 0))) := by rw [hu44]; exact (va_up_ne _ _ (Nat.ne_of_lt l_q13_q43)).trans f_q13
  replace f_q16 : u44 q16 = some (.inl (cs 0, 100, .inl (fun _ => 0))) := by rw [hu44]; exact (va_up_ne _ _ (Nat.ne_of_lt l_q16_q43)).trans f_q16
  replace f_q19 : u44 q19 = some (.inl (cs 0, 100, .inl (fun _ => 0))) := by rw [hu44]; exact (va_up_ne _ _ (Nat.ne_of_lt l_q19_q43)).trans f_q19
  replace f_q22 : u44 q22 = some (.inl (cs 1, 100, .inl (fun _ => 0))) := by rw [hu44]; exact (va_up_ne _ _ (Nat.ne_of_lt l_q22_q43)).trans f_q22
  replace f_q25 : u44 q25 = some (.inl (cs 0, 4, .inl (fun _ => 0))) := by rw [hu44]; exact (va_up_ne _ _ (Nat.ne_of_lt l_q25_q43)).trans f_q25
  replace f_q28 : u44 q28 = some (.inl (cs 0, 80, .inl (fun _ => 0))) := by rw [hu44]; exact (va_up_ne _ _ (Nat.ne_of_lt l_q28_q43)).trans f_q28
  replace f_q31 : u44 q31 = some (.inl (cs 0, 4, .inl (fun _ => 0))) := by rw [hu44]; exact (va_up_ne _ _ (Nat.ne_of_lt l_q31_q43)).trans f_q31
  replace f_q34 : u44 q34 = some (.inl (cs 1, 4, .inl (fun _ => 0))) := by rw [hu44]; exact (va_up_ne _ _ (Nat.ne_of_lt l_q34_q43)).trans f_q34
  replace f_q37 : u44 q37 = some (.inl (cs 0, 80, .inl (fun _ => 0))) := by rw [hu44]; exact (va_up_ne _ _ (Nat.ne_of_lt l_q37_q43)).trans f_q37
  replace f_q40 : u44 q40 = some (.inl (cs 0, 4, .inl (fun _ => 0))) := by rw [hu44]; exact (va_up_ne _ _ (Nat.ne_of_lt l_q40_q43)).trans f_q40
  replace f_h0 : u44 h0 = some (.inr (9, [.ref q1, .ref q4, .ref q7, .ref q10, .ref q13, .ref q16, .ref q19, .ref q22, .ref q25, .ref q28, .ref q31, .ref q34, .ref q37, .ref q40, .null, .null, .null, .null, .null, .int 0, .int 0, .int 0, .int 0, .int 0, .long 0, .null, .int 0, .int 0])) := by rw [hu44]; exact (va_up_ne _ _ (Nat.ne_of_lt l_h0_q43)).trans f_h0
  have f_q43 : u44 q43 = some (.inl (cs 0, 4, .inl (fun _ => 0))) := by rw [hu44]; exact va_up_self _ _ _
  refine fw_putF X gC_ok hF hS f_h0 rfl 14 (by decide) wm_493 rfl hnm rfl (tf := .array .int) (by decide +kernel) rfl rfl (Nat.le_of_ble_eq_true rfl) dX9_init_112 (fun H locs hF hS => ?_)
  have hF : fw_P D cls10 A (va_up u44 h0 (some (.inr (9, [.ref q1, .ref q4, .ref q7, .ref q10, .ref q13, .ref q16, .ref q19, .ref q22, .ref q25, .ref q28, .ref q31, .ref q34, .ref q37, .ref q40, .ref q43, .null, .null, .null, .null, .int 0, .int 0, .int 0, .int 0, .int 0, .long 0, .null, .int 0, .int 0])))) H := hF
  obtain ⟨u45, hu45⟩ : ∃ y : fW, y = va_up u44 h0 (some (.inr (9, [.ref q1, .ref q4, .ref q7, .ref q10, .ref q13, .ref q16, .ref q19, .ref q22, .ref q25, .ref q28, .ref q31, .ref q34, .ref q37, .ref q40, .ref q43, .null, .null, .null, .null, .int 0, .int 0, .int 0, .int 0, .int 0, .long 0, .null, .int 0, .int 0]))) := ⟨_, rfl⟩
  rw [← hu45] at hF
  replace f_q1 : u45 q1 = some (.inl (cs 1, 4, .inl (fun _ => 0))) := by rw [hu45]; exact (va_up_ne _ _ (Nat.ne_of_gt l_h0_q1)).trans f_q1
  replace f_q4 : u45 q4 = some (.inl (cs 0, 4, .inl (fun _ => 0))) := by rw [hu45]; exact (va_up_ne _ _ (Nat.ne_of_gt l_h0_q4)).trans f_q4
  replace f_q7 : u45 q7 = some (.inl (cs 0, 8, .inl (fun _ => 0))) := by rw [hu45]; exact (va_up_ne _ _ (Nat.ne_of_gt l_h0_q7)).trans f_q7
  replace f_q10 : u45 q10 = some (.inl (cs 0, 4, .inl (fun _ => 0))) := by rw [hu45]; exact (va_up_ne _ _ (Nat.ne_of_gt l_h0_q10)).trans f_q10
  replace f_q13 : u45 q13 = some (.inl (cs 0, 4, .inl (fun _ => 0))) := by rw [hu45]; exact (va_up_ne _ _ (Nat.ne_of_gt l_h0_q13)).trans f_q13
  replace f_q16 : u45 q16 = some (.inl (cs 0, 100, .inl (fun _ => 0))) := by rw [hu45]; exact (va_up_ne _ _ (Nat.ne_of_gt l_h0_q16)).trans f_q16
  replace f_q19 : u45 q19 = some (.inl (cs 0, 100, .inl (fun _ => 0))) := by rw [hu45]; exact (va_up_ne _ _ (Nat.ne_of_gt l_h0_q19)).trans f_q19
  replace f_q22 : u45 q22 = some (.inl (cs 1, 100, .inl (fun _ => 0))) := by rw [hu45]; exact (va_up_ne _ _ (Nat.ne_of_gt l_h0_q22)).trans f_q22
  replace f_q25 : u45 q25 = some (.inl (cs 0, 4, .inl (fun _ => 0))) := by rw [hu45]; exact (va_up_ne _ _ (Nat.ne_of_gt l_h0_q25)).trans f_q25
  replace f_q28 : u45 q28 = some (.inl (cs 0, 80, .inl (fun _ => 0))) := by rw [hu45]; exact (va_up_ne _ _ (Nat.ne_of_gt l_h0_q28)).trans f_q28
  replace f_q31 : u45 q31 = some (.inl (cs 0, 4, .inl (fun _ => 0))) := by rw [hu45]; exact (va_up_ne _ _ (Nat.ne_of_gt l_h0_q31)).trans f_q31
  replace f_q34 : u45 q34 = some (.inl (cs 1, 4, .inl (fun _ => 0))) := by rw [hu45]; exact (va_up_ne _ _ (Nat.ne_of_gt l_h0_q34)).trans f_q34
  replace f_q37 : u45 q37 = some (.inl (cs 0, 80, .inl (fun _ => 0))) := by rw [hu45]; exact (va_up_ne _ _ (Nat.ne_of_gt l_h0_q37)).trans f_q37
  replace f_q40 : u45 q40 = some (.inl (cs 0, 4, .inl (fun _ => 0))) := by rw [hu45]; exact (va_up_ne _ _ (Nat.ne_of_gt l_h0_q40)).trans f_q40
  replace f_q43 : u45 q43 = some (.inl (cs 0, 4, .inl (fun _ => 0))) := by rw [hu45]; exact (va_up_ne _ _ (Nat.ne_of_gt l_h0_q43)).trans f_q43
  replace f_h0 : u45 h0 = some (.inr (9, [.ref q1, .ref q4, .ref q7, .ref q10, .ref q13, .ref q16, .ref q19, .ref q22, .ref q25, .ref q28, .ref q31, .ref q34, .ref q37, .ref q40, .ref q43, .null, .null, .null, .null, .int 0, .int 0, .int 0, .int 0, .int 0, .long 0, .null, .int 0, .int 0])) := by rw [hu45]; exact va_up_self _ _ _
  refine lv_aload_n hx hb dX9_init_115 rfl (lv_at hl 0 rfl) ?_
  refine lv_sipush (v := 1600) hx hb dX9_init_116 (by decide) ?_
  have m_q1 := hF.lt f_q1
  have m_q4 := hF.lt f_q4
  have m_q7 := hF.lt f_q7
  have m_q10 := hF.lt f_q10
  have m_q13 := hF.lt f_q13
  have m_q16 := hF.lt f_q16
  have m_q19 := hF.lt f_q19
  have m_q22 := hF.lt f_q22
  have m_q25 := hF.lt f_q25
  have m_q28 := hF.lt f_q28
  have m_q31 := hF.lt f_q31
  have m_q34 := hF.lt f_q34
  have m_q37 := hF.lt f_q37
  have m_q40 := hF.lt f_q40
  have m_q43 := hF.lt f_q43
  have m_h0 := hF.lt f_h0
  refine fw_newa X hF hS (atype := .int) wm_85 rfl (fun _ h => by cases h) 0 rfl (N' := 1600) (a0 := (1600, .inl (fun _ => 0))) rfl (by decide) (by decide) (by decide) (Nat.le_of_ble_eq_true rfl) (Nat.le_of_ble_eq_true rfl) dX9_init_119 (fun q46 H nq46 zq46 zzq46 hF hS => ?_)
  have l_q1_q46 : q1 < q46 := Nat.lt_of_lt_of_le m_q1 (Nat.le_of_eq zq46.symm)
  have l_q4_q46 : q4 < q46 := Nat.lt_of_lt_of_le m_q4 (Nat.le_of_eq zq46.symm)
  have l_q7_q46 : q7 < q46 := Nat.lt_of_lt_of_le m_q7 (Nat.le_of_eq zq46.symm)
  have l_q10_q46 : q10 < q46 := Nat.lt_of_lt_of_le m_q10 (Nat.le_of_eq zq46.symm)
  have l_q13_q46 : q13 < q46 := Nat.lt_of_lt_of_le m_q13 (Nat.le_of_eq zq46.symm)
  have l_q16_q46 : q16 < q46 := Nat.lt_of_lt_of_le m_q16 (Nat.le_of_eq zq46.symm)
  have l_q19_q46 : q19 < q46 := Nat.lt_of_lt_of_le m_q19 (Nat.le_of_eq zq46.symm)
  have l_q22_q46 : q22 < q46 := Nat.lt_of_lt_of_le m_q22 (Nat.le_of_eq zq46.symm)
  have l_q25_q46 : q25 < q46 := Nat.lt_of_lt_of_le m_q25 (Nat.le_of_eq zq46.symm)
  have l_q28_q46 : q28 < q46 := Nat.lt_of_lt_of_le m_q28 (Nat.le_of_eq zq46.symm)
  have l_q31_q46 : q31 < q46 := Nat.lt_of_lt_of_le m_q31 (Nat.le_of_eq zq46.symm)
  have l_q34_q46 : q34 < q46 := Nat.lt_of_lt_of_le m_q34 (Nat.le_of_eq zq46.symm)
  have l_q37_q46 : q37 < q46 := Nat.lt_of_lt_of_le m_q37 (Nat.le_of_eq zq46.symm)
  have l_q40_q46 : q40 < q46 := Nat.lt_of_lt_of_le m_q40 (Nat.le_of_eq zq46.symm)
  have l_q43_q46 : q43 < q46 := Nat.lt_of_lt_of_le m_q43 (Nat.le_of_eq zq46.symm)
  have l_h0_q46 : h0 < q46 := Nat.lt_of_lt_of_le m_h0 (Nat.le_of_eq zq46.symm)
  clear m_q1 m_q4 m_q7 m_q10 m_q13 m_q16 m_q19 m_q22 m_q25 m_q28 m_q31 m_q34 m_q37 m_q40 m_q43 m_h0
  have hF : fw_P D cls10 A (va_up u45 q46 (some (.inl (cs 0, 1600, .inl (fun _ => 0))))) H := hF
  obtain ⟨u47, hu47⟩ : ∃ y : fW, y = va_up u45 q46 (some (.inl (cs 0, 1600, .inl (fun _ => 0)))) := ⟨_, rfl⟩
  rw [← hu47] at hF
  replace f_q1 : u47 q1 = some (.inl (cs 1, 4, .inl (fun _ => 0))) := by rw [hu47]; exact (va_up_ne _ _ (Nat.ne_of_lt l_q1_q46)).trans f_q1
  replace f_q4 : u47 q4 = some (.inl (cs 0, 4, .inl (fun _ => 0))) := by rw [hu47]; exact (va_up_ne _ _ (Nat.ne_of_lt l_q4_q46)).trans f_q4
  replace f_q7 : u47 q7 = some (.inl (cs 0, 8, .inl (fun _ => 0))) := by rw [hu47]; exact (va_up_ne _ _ (Nat.ne_of_lt l_q7_q46)).trans f_q7
  replace f_q10 : u47 q10 = some (.inl (cs 0, 4, .inl (fun _ => 0))) := by rw [hu47]; exact (va_up_ne _ _ (Nat.ne_of_lt l_q10_q46)).trans f_q10
  replace f_q13 : u47 q13 = some (.inl (cs 0, 4, .inl (fun _ => 0))) := by rw [hu47]; exact (va_up_ne _ _ (Nat.ne_of_lt l_q13_q46)).trans f_q13
  replace f_q16 : u47 q16 = some (.inl (cs 0, 100, .inl (fun _ => 0))) := by rw [hu47]; exact (va_up_ne _ _ (Nat.ne_of_lt l_q16_q46)).trans f_q16
  replace f_q19 : u47 q19 = some (.inl (cs 0, 100, .inl (fun _ => 0))) := by rw [hu47]; exact (va_up_ne _ _ (Nat.ne_of_lt l_q19_q46)).trans f_q19
  replace f_q22 : u47 q22 = some (.inl (cs 1, 100, .inl (fun _ => 0))) := by rw [hu47]; exact (va_up_ne _ _ (Nat.ne_of_lt l_q22_q46)).trans f_q22
  replace f_q25 : u47 q25 = some (.inl (cs 0, 4, .inl (fun _ => 0))) := by rw [hu47]; exact (va_up_ne _ _ (Nat.ne_of_lt l_q25_q46)).trans f_q25
  replace f_q28 : u47 q28 = some (.inl (cs 0, 80, .inl (fun _ => 0))) := by rw [hu47]; exact (va_up_ne _ _ (Nat.ne_of_lt l_q28_q46)).trans f_q28
  replace f_q31 : u47 q31 = some (.inl (cs 0, 4, .inl (fun _ => 0))) := by rw [hu47]; exact (va_up_ne _ _ (Nat.ne_of_lt l_q31_q46)).trans f_q31
  replace f_q34 : u47 q34 = some (.inl (cs 1, 4, .inl (fun _ => 0))) := by rw [hu47]; exact (va_up_ne _ _ (Nat.ne_of_lt l_q34_q46)).trans f_q34
  replace f_q37 : u47 q37 = some (.inl (cs 0, 80, .inl (fun _ => 0))) := by rw [hu47]; exact (va_up_ne _ _ (Nat.ne_of_lt l_q37_q46)).trans f_q37
  replace f_q40 : u47 q40 = some (.inl (cs 0, 4, .inl (fun _ => 0))) := by rw [hu47]; exact (va_up_ne _ _ (Nat.ne_of_lt l_q40_q46)).trans f_q40
  replace f_q43 : u47 q43 = some (.inl (cs 0, 4, .inl (fun _ => 0))) := by rw [hu47]; exact (va_up_ne _ _ (Nat.ne_of_lt l_q43_q46)).trans f_q43
  replace f_h0 : u47 h0 = some (.inr (9, [.ref q1, .ref q4, .ref q7, .ref q10, .ref q13, .ref q16, .ref q19, .ref q22, .ref q25, .ref q28, .ref q31, .ref q34, .ref q37, .ref q40, .ref q43, .null, .null, .null, .null, .int 0, .int 0, .int 0, .int 0, .int 0, .long 0, .null, .int 0, .int 0])) := by rw [hu47]; exact (va_up_ne _ _ (Nat.ne_of_lt l_h0_q46)).trans f_h0
  have f_q46 : u47 q46 = some (.inl (cs 0, 1600, .inl (fun _ => 0))) := by rw [hu47]; exact va_up_self _ _ _
  refine fw_putF X gC_ok hF hS f_h0 rfl 15 (by decide) wm_494 rfl hnm rfl (tf := .array .int) (by decide +kernel) rfl rfl (Nat.le_of_ble_eq_true rfl) dX9_init_121 (fun H locs hF hS => ?_)
  have hF : fw_P D cls10 A (va_up u47 h0 (some (.inr (9, [.ref q1, .ref q4, .ref q7, .ref q10, .ref q13, .ref q16, .ref q19, .ref q22, .ref q25, .ref q28, .ref q31, .ref q34, .ref q37, .ref q40, .ref q43, .ref q46, .null, .null, .null, .int 0, .int 0, .int 0, .int 0, .int 0, .long 0, .null, .int 0, .int 0])))) H := hF
  obtain ⟨u48, hu48⟩ : ∃ y : fW, y = va_up u47 h0 (some (.inr (9, [.ref q1, .ref q4, .ref q7, .ref q10, .ref q13, .ref q16, .ref q19, .ref q22, .ref q25, .ref q28, .ref q31, .ref q34, .ref q37, .ref q40, .ref q43, .ref q46, .null, .null, .null, .int 0, .int 0, .int 0, .int 0, .int 0, .long 0, .null, .int 0, .int 0]))) := ⟨_, rfl⟩
  rw [← hu48] at hF
  replace f_q1 : u48 q1 = some (.inl (cs 1, 4, .inl (fun _ => 0))) := by rw [hu48]; exact (va_up_ne _ _ (Nat.ne_of_gt l_h0_q1)).trans f_q1
  replace f_q4 : u48 q4 = some (.inl (cs 0, 4, .inl (fun _ => 0))) := by rw [hu48]; exact (va_up_ne _ _ (Nat.ne_of_gt l_h0_q4)).trans f_q4
  replace f_q7 : u48 q7 = some (.inl (cs 0, 8, .inl (fun _ => 0))) := by rw [hu48]; exact (va_up_ne _ _ (Nat.ne_of_gt l_h0_q7)).trans f_q7
  replace f_q10 : u48 q10 = some (.inl (cs 0, 4, .inl (fun _ => 0))) := by rw [hu48]; exact (va_up_ne _ _ (Nat.ne_of_gt l_h0_q10)).trans f_q10
  replace f_q13 : u48 q13 = some (.inl (cs 0, 4, .inl (fun _ => 0))) := by rw [hu48]; exact (va_up_ne _ _ (Nat.ne_of_gt l_h0_q13)).trans f_q13
  replace f_q16 : u48 q16 = some (.inl (cs 0, 100, .inl (fun _ => 0))) := by rw [hu48]; exact (va_up_ne _ _ (Nat.ne_of_gt l_h0_q16)).trans f_q16
  replace f_q19 : u48 q19 = some (.inl (cs 0, 100, .inl (fun _ => 0))) := by rw [hu48]; exact (va_up_ne _ _ (Nat.ne_of_gt l_h0_q19)).trans f_q19
  replace f_q22 : u48 q22 = some (.inl (cs 1, 100, .inl (fun _ => 0))) := by rw [hu48]; exact (va_up_ne _ _ (Nat.ne_of_gt l_h0_q22)).trans f_q22
  replace f_q25 : u48 q25 = some (.inl (cs 0, 4, .inl (fun _ => 0))) := by rw [hu48]; exact (va_up_ne _ _ (Nat.ne_of_gt l_h0_q25)).trans f_q25
  replace f_q28 : u48 q28 = some (.inl (cs 0, 80, .inl (fun _ => 0))) := by rw [hu48]; exact (va_up_ne _ _ (Nat.ne_of_gt l_h0_q28)).trans f_q28
  replace f_q31 : u48 q31 = some (.inl (cs 0, 4, .inl (fun _ => 0))) := by rw [hu48]; exact (va_up_ne _ _ (Nat.ne_of_gt l_h0_q31)).trans f_q31
  replace f_q34 : u48 q34 = some (.inl (cs 1, 4, .inl (fun _ => 0))) := by rw [hu48]; exact (va_up_ne _ _ (Nat.ne_of_gt l_h0_q34)).trans f_q34
  replace f_q37 : u48 q37 = some (.inl (cs 0, 80, .inl (fun _ => 0))) := by rw [hu48]; exact (va_up_ne _ _ (Nat.ne_of_gt l_h0_q37)).trans f_q37
  replace f_q40 : u48 q40 = some (.inl (cs 0, 4, .inl (fun _ => 0))) := by rw [hu48]; exact (va_up_ne _ _ (Nat.ne_of_gt l_h0_q40)).trans f_q40
  replace f_q43 : u48 q43 = some (.inl (cs 0, 4, .inl (fun _ => 0))) := by rw [hu48]; exact (va_up_ne _ _ (Nat.ne_of_gt l_h0_q43)).trans f_q43
  replace f_q46 : u48 q46 = some (.inl (cs 0, 1600, .inl (fun _ => 0))) := by rw [hu48]; exact (va_up_ne _ _ (Nat.ne_of_gt l_h0_q46)).trans f_q46
  replace f_h0 : u48 h0 = some (.inr (9, [.ref q1, .ref q4, .ref q7, .ref q10, .ref q13, .ref q16, .ref q19, .ref q22, .ref q25, .ref q28, .ref q31, .ref q34, .ref q37, .ref q40, .ref q43, .ref q46, .null, .null, .null, .int 0, .int 0, .int 0, .int 0, .int 0, .long 0, .null, .int 0, .int 0])) := by rw [hu48]; exact va_up_self _ _ _
  refine lv_aload_n hx hb dX9_init_124 rfl (lv_at hl 0 rfl) ?_
  refine lv_iconst (v := 4) hx hb dX9_init_125 (by decide) ?_
  have m_q1 := hF.lt f_q1
  have m_q4 := hF.lt f_q4
  have m_q7 := hF.lt f_q7
  have m_q10 := hF.lt f_q10
  have m_q13 := hF.lt f_q13
  have m_q16 := hF.lt f_q16
  have m_q19 := hF.lt f_q19
  have m_q22 := hF.lt f_q22
  have m_q25 := hF.lt f_q25
  have m_q28 := hF.lt f_q28
  have m_q31 := hF.lt f_q31
  have m_q34 := hF.lt f_q34
  have m_q37 := hF.lt f_q37
  have m_q40 := hF.lt f_q40
  have m_q43 := hF.lt f_q43
  have m_q46 := hF.lt f_q46
  have m_h0 := hF.lt f_h0
  refine fw_newa X hF hS (atype := .int) wm_85 rfl (fun _ h => by cases h) 0 rfl (N' := 4) (a0 := (4, .inl (fun _ => 0))) rfl (by decide) (by decide) (by decide) (Nat.le_of_ble_eq_true rfl) (Nat.le_of_ble_eq_true rfl) dX9_init_126 (fun q49 H nq49 zq49 zzq49 hF hS => ?_)
  have l_q1_q49 : q1 < q49 := Nat.lt_of_lt_of_le m_q1 (Nat.le_of_eq zq49.symm)
  have l_q4_q49 : q4 < q49 := Nat.lt_of_lt_of_le m_q4 (Nat.le_of_eq zq49.symm)
  have l_q7_q49 : q7 < q49 := Nat.lt_of_lt_of_le m_q7 (Nat.le_of_eq zq49.symm)
  have l_q10_q49 : q10 < q49 := Nat.lt_of_lt_of_le m_q10 (Nat.le_of_eq zq49.symm)
  have l_q13_q49 : q13 < q49 := Nat.lt_of_lt_of_le m_q13 (Nat.le_of_eq zq49.symm)
  have l_q16_q49 : q16 < q49 := Nat.lt_of_lt_of_le m_q16 (Nat.le_of_eq zq49.symm)
  have l_q19_q49 : q19 < q49 := Nat.lt_of_lt_of_le m_q19 (Nat.le_of_eq zq49.symm)
  have l_q22_q49 : q22 < q49 := Nat.lt_of_lt_of_le m_q22 (Nat.le_of_eq zq49.symm)
  have l_q25_q49 : q25 < q49 := Nat.lt_of_lt_of_le m_q25 (Nat.le_of_eq zq49.symm)
  have l_q28_q49 : q28 < q49 := Nat.lt_of_lt_of_le m_q28 (Nat.le_of_eq zq49.symm)
  have l_q31_q49 : q31 < q49 := Nat.lt_of_lt_of_le m_q31 (Nat.le_of_eq zq49.symm)
  have l_q34_q49 : q34 < q49 := Nat.lt_of_lt_of_le m_q34 (Nat.le_of_eq zq49.symm)
  have l_q37_q49 : q37 < q49 := Nat.lt_of_lt_of_le m_q37 (Nat.le_of_eq zq49.symm)
  have l_q40_q49 : q40 < q49 := Nat.lt_of_lt_of_le m_q40 (Nat.le_of_eq zq49.symm)
  have l_q43_q49 : q43 < q49 := Nat.lt_of_lt_of_le m_q43 (Nat.le_of_eq zq49.symm)
  have l_q46_q49 : q46 < q49 := Nat.lt_of_lt_of_le m_q46 (Nat.le_of_eq zq49.symm)
  have l_h0_q49 : h0 < q49 := Nat.lt_of_lt_of_le m_h0 (Nat.le_of_eq zq49.symm)
  clear m_q1 m_q4 m_q7 m_q10 m_q13 m_q16 m_q19 m_q22 m_q25 m_q28 m_q31 m_q34 m_q37 m_q40 m_q43 m_q46 m_h0
  have hF : fw_P D cls10 A (va_up u48 q49 (some (.inl (cs 0, 4, .inl (fun _ => 0))))) H := hF
  obtain ⟨u50, hu50⟩ : ∃ y : fW, y = va_up u48 q49 (some (.inl (cs 0, 4, .inl (fun _ => 0)))) := ⟨_, rfl⟩
  rw [← hu50] at hF
  replace f_q1 : u50 q1 = some (.inl (cs 1, 4, .inl (fun _ => 0))) := by rw [hu50]; exact (va_up_ne _ _ (Nat.ne_of_lt l_q1_q49)).trans f_q1
  replace f_q4 : u50 q4 = some (.inl (cs 0, 4, .inl (fun _ => 0))) := by rw [hu50]; exact (va_up_ne _ _ (Nat.ne_of_lt l_q4_q49)).trans f_q4
  replace f_q7 : u50 q7 = some (.inl (cs 0, 8, .inl (fun _ => 0))) := by rw [hu50]; exact (va_up_ne _ _ (Nat.ne_of_lt l_q7_q49)).trans f_q7
  replace f_q10 : u50 q10 = some (.inl (cs 0, 4, .inl (fun _ => 0))) := by rw [hu50]; exact (va_up_ne _ _ (Nat.ne_of_lt l_q10_q49)).trans f_q10
  replace f_q13 : u50 q13 = some (.inl (cs 0, 4, .inl (fun _ => 0))) := by rw [hu50]; exact (va_up_ne _ _ (Nat.ne_of_lt l_q13_q49)).trans f_q13
  replace f_q16 : u50 q16 = some (.inl (cs 0, 100, .inl (fun _ => 0))) := by rw [hu50]; exact (va_up_ne _ _ (Nat.ne_of_lt l_q16_q49)).trans f_q16
  replace f_q19 : u50 q19 = some (.inl (cs 0, 100, .inl (fun _ => 0))) := by rw [hu50]; exact (va_up_ne _ _ (Nat.ne_of_lt l_q19_q49)).trans f_q19
  replace f_q22 : u50 q22 = some (.inl (cs 1, 100, .inl (fun _ => 0))) := by rw [hu50]; exact (va_up_ne _ _ (Nat.ne_of_lt l_q22_q49)).trans f_q22
  replace f_q25 : u50 q25 = some (.inl (cs 0, 4, .inl (fun _ => 0))) := by rw [hu50]; exact (va_up_ne _ _ (Nat.ne_of_lt l_q25_q49)).trans f_q25
  replace f_q28 : u50 q28 = some (.inl (cs 0, 80, .inl (fun _ => 0))) := by rw [hu50]; exact (va_up_ne _ _ (Nat.ne_of_lt l_q28_q49)).trans f_q28
  replace f_q31 : u50 q31 = some (.inl (cs 0, 4, .inl (fun _ => 0))) := by rw [hu50]; exact (va_up_ne _ _ (Nat.ne_of_lt l_q31_q49)).trans f_q31
  replace f_q34 : u50 q34 = some (.inl (cs 1, 4, .inl (fun _ => 0))) := by rw [hu50]; exact (va_up_ne _ _ (Nat.ne_of_lt l_q34_q49)).trans f_q34
  replace f_q37 : u50 q37 = some (.inl (cs 0, 80, .inl (fun _ => 0))) := by rw [hu50]; exact (va_up_ne _ _ (Nat.ne_of_lt l_q37_q49)).trans f_q37
  replace f_q40 : u50 q40 = some (.inl (cs 0, 4, .inl (fun _ => 0))) := by rw [hu50]; exact (va_up_ne _ _ (Nat.ne_of_lt l_q40_q49)).trans f_q40
  replace f_q43 : u50 q43 = some (.inl (cs 0, 4, .inl (fun _ => 0))) := by rw [hu50]; exact (va_up_ne _ _ (Nat.ne_of_lt l_q43_q49)).trans f_q43
  replace f_q46 : u50 q46 = some (.inl (cs 0, 1600, .inl (fun _ => 0))) := by rw [hu50]; exact (va_up_ne _ _ (Nat.ne_of_lt l_q46_q49)).trans f_q46
  replace f_h0 : u50 h0 = some (.inr (9, [.ref q1, .ref q4, .ref q7, .ref q10, .ref q13, .ref q16, .ref q19, .ref q22, .ref q25, .ref q28, .ref q31, .ref q34, .ref q37, .ref q40, .ref q43, .ref q46, .null, .null, .null, .int 0, .int 0, .int 0, .int 0, .int 0, .long 0, .null, .int 0, .int 0])) := by rw [hu50]; exact (va_up_ne _ _ (Nat.ne_of_lt l_h0_q49)).trans f_h0
  have f_q49 : u50 q49 = some (.inl (cs 0, 4, .inl (fun _ => 0))) := by rw [hu50]; exact va_up_self _ _ _
  refine fw_putF X gC_ok hF hS f_h0 rfl 16 (by decide) wm_495 rfl hnm rfl (tf := .array .int) (by decide +kernel) rfl rfl (Nat.le_of_ble_eq_true rfl) dX9_init_128 (fun H locs hF hS => ?_)
  have hF : fw_P D cls10 A (va_up u50 h0 (some (.inr (9, [.ref q1, .ref q4, .ref q7, .ref q10, .ref q13, .ref q16, .ref q19, .ref q22, .ref q25, .ref q28, .ref q31, .ref q34, .ref q37, .ref q40, .ref q43, .ref q46, .ref q49, .null, .null, .int 0, .int 0, .int 0, .int 0, .int 0, .long 0, .null, .int 0, .int 0])))) H := hF
  obtain ⟨u51, hu51⟩ : ∃ y : fW, y = va_up u50 h0 (some (.inr (9, [.ref q1, .ref q4, .ref q7, .ref q10, .ref q13, .ref q16, .ref q19, .ref q22, .ref q25, .ref q28, .ref q31, .ref q34, .ref q37, .ref q40, .ref q43, .ref q46, .ref q49, .null, .null, .int 0, .int 0, .int 0, .int 0, .int 0, .long 0, .null, .int 0, .int 0]))) := ⟨_, rfl⟩
  rw [← hu51] at hF
  replace f_q1 : u51 q1 = some (.inl (cs 1, 4, .inl (fun _ => 0))) := by rw [hu51]; exact (va_up_ne _ _ (Nat.ne_of_gt l_h0_q1)).trans f_q1
  replace f_q4 : u51 q4 = some (.inl (cs 0, 4, .inl (fun _ => 0))) := by rw [hu51]; exact (va_up_ne _ _ (Nat.ne_of_gt l_h0_q4)).trans f_q4
  replace f_q7 : u51 q7 = some (.inl (cs 0, 8, .inl (fun _ => 0))) := by rw [hu51]; exact (va_up_ne _ _ (Nat.ne_of_gt l_h0_q7)).trans f_q7
  replace f_q10 : u51 q10 = some (.inl (cs 0, 4, .inl (fun _ => 0))) := by rw [hu51]; exact (va_up_ne _ _ (Nat.ne_of_gt l_h0_q10)).trans f_q10
  replace f_q13 : u51 q13 = some (.inl (cs 0, 4, .inl (fun _ => 0))) := by rw [hu51]; exact (va_up_ne _ _ (Nat.ne_of_gt l_h0_q13)).trans f_q13
  replace f_q16 : u51 q16 = some (.inl (cs 0, 100, .inl (fun _ => 0))) := by rw [hu51]; exact (va_up_ne _ _ (Nat.ne_of_gt l_h0_q16)).trans f_q16
  replace f_q19 : u51 q19 = some (.inl (cs 0, 100, .inl (fun _ => 0))) := by rw [hu51]; exact (va_up_ne _ _ (Nat.ne_of_gt l_h0_q19)).trans f_q19
  replace f_q22 : u51 q22 = some (.inl (cs 1, 100, .inl (fun _ => 0))) := by rw [hu51]; exact (va_up_ne _ _ (Nat.ne_of_gt l_h0_q22)).trans f_q22
  replace f_q25 : u51 q25 = some (.inl (cs 0, 4, .inl (fun _ => 0))) := by rw [hu51]; exact (va_up_ne _ _ (Nat.ne_of_gt l_h0_q25)).trans f_q25
  replace f_q28 : u51 q28 = some (.inl (cs 0, 80, .inl (fun _ => 0))) := by rw [hu51]; exact (va_up_ne _ _ (Nat.ne_of_gt l_h0_q28)).trans f_q28
  replace f_q31 : u51 q31 = some (.inl (cs 0, 4, .inl (fun _ => 0))) := by rw [hu51]; exact (va_up_ne _ _ (Nat.ne_of_gt l_h0_q31)).trans f_q31
  replace f_q34 : u51 q34 = some (.inl (cs 1, 4, .inl (fun _ => 0))) := by rw [hu51]; exact (va_up_ne _ _ (Nat.ne_of_gt l_h0_q34)).trans f_q34
  replace f_q37 : u51 q37 = some (.inl (cs 0, 80, .inl (fun _ => 0))) := by rw [hu51]; exact (va_up_ne _ _ (Nat.ne_of_gt l_h0_q37)).trans f_q37
  replace f_q40 : u51 q40 = some (.inl (cs 0, 4, .inl (fun _ => 0))) := by rw [hu51]; exact (va_up_ne _ _ (Nat.ne_of_gt l_h0_q40)).trans f_q40
  replace f_q43 : u51 q43 = some (.inl (cs 0, 4, .inl (fun _ => 0))) := by rw [hu51]; exact (va_up_ne _ _ (Nat.ne_of_gt l_h0_q43)).trans f_q43
  replace f_q46 : u51 q46 = some (.inl (cs 0, 1600, .inl (fun _ => 0))) := by rw [hu51]; exact (va_up_ne _ _ (Nat.ne_of_gt l_h0_q46)).trans f_q46
  replace f_q49 : u51 q49 = some (.inl (cs 0, 4, .inl (fun _ => 0))) := by rw [hu51]; exact (va_up_ne _ _ (Nat.ne_of_gt l_h0_q49)).trans f_q49
  replace f_h0 : u51 h0 = some (.inr (9, [.ref q1, .ref q4, .ref q7, .ref q10, .ref q13, .ref q16, .ref q19, .ref q22, .ref q25, .ref q28, .ref q31, .ref q34, .ref q37, .ref q40, .ref q43, .ref q46, .ref q49, .null, .null, .int 0, .int 0, .int 0, .int 0, .int 0, .long 0, .null, .int 0, .int 0])) := by rw [hu51]; exact va_up_self _ _ _
  refine lv_aload_n hx hb dX9_init_131 rfl (lv_at hl 0 rfl) ?_
  refine lv_iconst (v := 4) hx hb dX9_init_132 (by decide) ?_
  have m_q1 := hF.lt f_q1
  have m_q4 := hF.lt f_q4
  have m_q7 := hF.lt f_q7
  have m_q10 := hF.lt f_q10
  have m_q13 := hF.lt f_q13
  have m_q16 := hF.lt f_q16
  have m_q19 := hF.lt f_q19
  have m_q22 := hF.lt f_q22
  have m_q25 := hF.lt f_q25
  have m_q28 := hF.lt f_q28
  have m_q31 := hF.lt f_q31
  have m_q34 := hF.lt f_q34
  have m_q37 := hF.lt f_q37
  have m_q40 := hF.lt f_q40
  have m_q43 := hF.lt f_q43
  have m_q46 := hF.lt f_q46
  have m_q49 := hF.lt f_q49
  have m_h0 := hF.lt f_h0
  refine fw_newa X hF hS (atype := .int) wm_85 rfl (fun _ h => by cases h) 0 rfl (N' := 4) (a0 := (4, .inl (fun _ => 0))) rfl (by decide) (by decide) (by decide) (Nat.le_of_ble_eq_true rfl) (Nat.le_of_ble_eq_true rfl) dX9_init_133 (fun q52 H nq52 zq52 zzq52 hF hS => ?_)
  have l_q1_q52 : q1 < q52 := Nat.lt_of_lt_of_le m_q1 (Nat.le_of_eq zq52.symm)
  have l_q4_q52 : q4 < q52 := Nat.lt_of_lt_of_le m_q4 (Nat.le_of_eq zq52.symm)
  have l_q7_q52 : q7 < q52 := Nat.lt_of_lt_of_le m_q7 (Nat.le_of_eq zq52.symm)
  have l_q10_q52 : q10 < q52 := Nat.lt_of_lt_of_le m_q10 (Nat.le_of_eq zq52.symm)
  have l_q13_q52 : q13 < q52 := Nat.lt_of_lt_of_le m_q13 (Nat.le_of_eq zq52.symm)
  have l_q16_q52 : q16 < q52 := Nat.lt_of_lt_of_le m_q16 (Nat.le_of_eq zq52.symm)
  have l_q19_q52 : q19 < q52 := Nat.lt_of_lt_of_le m_q19 (Nat.le_of_eq zq52.symm)
  have l_q22_q52 : q22 < q52 := Nat.lt_of_lt_of_le m_q22 (Nat.le_of_eq zq52.symm)
  have l_q25_q52 : q25 < q52 := Nat.lt_of_lt_of_le m_q25 (Nat.le_of_eq zq52.symm)
  have l_q28_q52 : q28 < q52 := Nat.lt_of_lt_of_le m_q28 (Nat.le_of_eq zq52.symm)
  have l_q31_q52 : q31 < q52 := Nat.lt_of_lt_of_le m_q31 (Nat.le_of_eq zq52.symm)
  have l_q34_q52 : q34 < q52 := Nat.lt_of_lt_of_le m_q34 (Nat.le_of_eq zq52.symm)
  have l_q37_q52 : q37 < q52 := Nat.lt_of_lt_of_le m_q37 (Nat.le_of_eq zq52.symm)
  have l_q40_q52 : q40 < q52 := Nat.lt_of_lt_of_le m_q40 (Nat.le_of_eq zq52.symm)
  have l_q43_q52 : q43 < q52 := Nat.lt_of_lt_of_le m_q43 (Nat.le_of_eq zq52.symm)
  have l_q46_q52 : q46 < q52 := Nat.lt_of_lt_of_le m_q46 (Nat.le_of_eq zq52.symm)
  have l_q49_q52 : q49 < q52 := Nat.lt_of_lt_of_le m_q49 (Nat.le_of_eq zq52.symm)
  have l_h0_q52 : h0 < q52 := Nat.lt_of_lt_of_le m_h0 (Nat.le_of_eq zq52.symm)
  clear m_q1 m_q4 m_q7 m_q10 m_q13 m_q16 m_q19 m_q22 m_q25 m_q28 m_q31 m_q34 m_q37 m_q40 m_q43 m_q46 m_q49 m_h0
  have hF : fw_P D cls10 A (va_up u51 q52 (some (.inl (cs 0, 4, .inl (fun _ => 0))))) H := hF
  obtain ⟨u53, hu53⟩ : ∃ y : fW, y = va_up u51 q52 (some (.inl (cs 0, 4, .inl (fun _ => 0)))) := ⟨_, rfl⟩
  rw [← hu53] at hF
  replace f_q1 : u53 q1 = some (.inl (cs 1, 4, .inl (fun _ => 0))) := by rw [hu53]; exact (va_up_ne _ _ (Nat.ne_of_lt l_q1_q52)).trans f_q1
  replace f_q4 : u53 q4 = some (.inl (cs 0, 4, .inl (fun _ => 0))) := by rw [hu53]; exact (va_up_ne _ _ (Nat.ne_of_lt l_q4_q52)).trans f_q4
  replace f_q7 : u53 q7 = some (.inl (cs 0, 8, .inl (fun _ => 0))) := by rw [hu53]; exact (va_up_ne _ _ (Nat.ne_of_lt l_q7_q52)).trans f_q7
  replace f_q10 : u53 q10 = some (.inl (cs 0, 4, .inl (fun _ => 0))) := by rw [hu53]; exact (va_up_ne _ _ (Nat.ne_of_lt l_q10_q52)).trans f_q10
  replace f_q13 : u53 q13 = some (.inl (cs 0, 4, .inl (fun _ => 0))) := by rw [hu53]; exact (va_up_ne _ _ (Nat.ne_of_lt l_q13_q52)).trans f_q13
  replace f_q16 : u53 q16 = some (.inl (cs 0, 100, .inl (fun _ => 0))) := by rw [hu53]; exact (va_up_ne _ _ (Nat.ne_of_lt l_q16_q52)).trans f_q16
  replace f_q19 : u53 q19 = some (.inl (cs 0, 100, .inl (fun _ => 0))) := by rw [hu53]; exact (va_up_ne _ _ (Nat.ne_of_lt l_q19_q52)).trans f_q19
  replace f_q22 : u53 q22 = some (.inl (cs 1, 100, .inl (fun _ => 0))) := by rw [hu53]; exact (va_up_ne _ _ (Nat.ne_of_lt l_q22_q52)).trans f_q22
  replace f_q25 : u53 q25 = some (.inl (cs 0, 4, .inl (fun _ => 0))) := by rw [hu53]; exact (va_up_ne _ _ (Nat.ne_of_lt l_q25_q52)).trans f_q25
  replace f_q28 : u53 q28 = some (.inl (cs 0, 80, .inl (fun _ => 0))) := by rw [hu53]; exact (va_up_ne _ _ (Nat.ne_of_lt l_q28_q52)).trans f_q28
  replace f_q31 : u53 q31 = some (.inl (cs 0, 4, .inl (fun _ => 0))) := by rw [hu53]; exact (va_up_ne _ _ (Nat.ne_of_lt l_q31_q52)).trans f_q31
  replace f_q34 : u53 q34 = some (.inl (cs 1, 4, .inl (fun _ => 0))) := by rw [hu53]; exact (va_up_ne _ _ (Nat.ne_of_lt l_q34_q52)).trans f_q34
  replace f_q37 : u53 q37 = some (.inl (cs 0, 80, .inl (fun _ => 0))) := by rw [hu53]; exact (va_up_ne _ _ (Nat.ne_of_lt l_q37_q52)).trans f_q37
  replace f_q40 : u53 q40 = some (.inl (cs 0, 4, .inl (fun _ => 0))) := by rw [hu53]; exact (va_up_ne _ _ (Nat.ne_of_lt l_q40_q52)).trans f_q40
  replace f_q43 : u53 q43 = some (.inl (cs 0, 4, .inl (fun _ => 0))) := by rw [hu53]; exact (va_up_ne _ _ (Nat.ne_of_lt l_q43_q52)).trans f_q43
  replace f_q46 : u53 q46 = some (.inl (cs 0, 1600, .inl (fun _ => 0))) := by rw [hu53]; exact (va_up_ne _ _ (Nat.ne_of_lt l_q46_q52)).trans f_q46
  replace f_q49 : u53 q49 = some (.inl (cs 0, 4, .inl (fun _ => 0))) := by rw [hu53]; exact (va_up_ne _ _ (Nat.ne_of_lt l_q49_q52)).trans f_q49
  replace f_h0 : u53 h0 = some (.inr (9, [.ref q1, .ref q4, .ref q7, .ref q10, .ref q13, .ref q16, .ref q19, .ref q22, .ref q25, .ref q28, .ref q31, .ref q34, .ref q37, .ref q40, .ref q43, .ref q46, .ref q49, .null, .null, .int 0, .int 0, .int 0, .int 0, .int 0, .long 0, .null, .int 0, .int 0])) := by rw [hu53]; exact (va_up_ne _ _ (Nat.ne_of_lt l_h0_q52)).trans f_h0
  have f_q52 : u53 q52 = some (.inl (cs 0, 4, .inl (fun _ => 0))) := by rw [hu53]; exact va_up_self _ _ _
  refine fw_putF X gC_ok hF hS f_h0 rfl 17 (by decide) wm_496 rfl hnm rfl (tf := .array .int) (by decide +kernel) rfl rfl (Nat.le_of_ble_eq_true rfl) dX9_init_135 (fun H locs hF hS => ?_)
  have hF : fw_P D cls10 A (va_up u53 h0 (some (.inr (9, [.ref q1, .ref q4, .ref q7, .ref q10, .ref q13, .ref q16, .ref q19, .ref q22, .ref q25, .ref q28, .ref q31, .ref q34, .ref q37, .ref q40, .ref q43, .ref q46, .ref q49, .ref q52, .null, .int 0, .int 0, .int 0, .int 0, .int 0, .long 0, .null, .int 0, .int 0])))) H := hF
  obtain ⟨u54, hu54⟩ : ∃ y : fW, y = va_up u53 h0 (some (.inr (9, [.ref q1, .ref q4, .ref q7, .ref q10, .ref q13, .ref q16, .ref q19, .ref q22, .ref q25, .ref q28, .ref q31, .ref q34, .ref q37, .ref q40, .ref q43, .ref q46, .ref q49, .ref q52, .null, .int 0, .int 0, .int 0, .int 0, .int 0, .long 0, .null, .int 0, .int 0]))) := ⟨_, rfl⟩
  rw [← hu54] at hF
  replace f_q1 : u54 q1 = some (.inl (cs 1, 4, .inl (fun _ => 0))) := by rw [hu54]; exact (va_up_ne _ _ (Nat.ne_of_gt l_h0_q1)).trans f_q1
  replace f_q4 : u54 q4 = some (.inl (cs 0, 4, .inl (fun _ => 0))) := by rw [hu54]; exact (va_up_ne _ _ (Nat.ne_of_gt l_h0_q4)).trans f_q4
  replace f_q7 : u54 q7 = some (.inl (cs 0, 8, .inl (fun _ => 0))) := by rw [hu54]; exact (va_up_ne _ _ (Nat.ne_of_gt l_h0_q7)).trans f_q7
  replace f_q10 : u54 q10 = some (.inl (cs 0, 4, .inl (fun _ => 0))) := by rw [hu54]; exact (va_up_ne _ _ (Nat.ne_of_gt l_h0_q10)).trans f_q10
  replace f_q13 : u54 q13 = some (.inl (cs 0, 4, .inl (fun _ => 0))) := by rw [hu54]; exact (va_up_ne _ _ (Nat.ne_of_gt l_h0_q13)).trans f_q13
  replace f_q16 : u54 q16 = some (.inl (cs 0, 100, .inl (fun _ => 0))) := by rw [hu54]; exact (va_up_ne _ _ (Nat.ne_of_gt l_h0_q16)).trans f_q16
  replace f_q19 : u54 q19 = some (.inl (cs 0, 100, .inl (fun _ => 0))) := by rw [hu54]; exact (va_up_ne _ _ (Nat.ne_of_gt l_h0_q19)).trans f_q19
  replace f_q22 : u54 q22 = some (.inl (cs 1, 100, .inl (fun _ => 0))) := by rw [hu54]; exact (va_up_ne _ _ (Nat.ne_of_gt l_h0_q22)).trans f_q22
  replace f_q25 : u54 q25 = some (.inl (cs 0, 4, .inl (fun _ => 0))) := by rw [hu54]; exact (va_up_ne _ _ (Nat.ne_of_gt l_h0_q25)).trans f_q25
  replace f_q28 : u54 q28 = some (.inl (cs 0, 80, .inl (fun _ => 0))) := by rw [hu54]; exact (va_up_ne _ _ (Nat.ne_of_gt l_h0_q28)).trans f_q28
  replace f_q31 : u54 q31 = some (.inl (cs 0, 4, .inl (fun _ => 0))) := by rw [hu54]; exact (va_up_ne _ _ (Nat.ne_of_gt l_h0_q31)).trans f_q31
  replace f_q34 : u54 q34 = some (.inl (cs 1, 4, .inl (fun _ => 0))) := by rw [hu54]; exact (va_up_ne _ _ (Nat.ne_of_gt l_h0_q34)).trans f_q34
  replace f_q37 : u54 q37 = some (.inl (cs 0, 80, .inl (fun _ => 0))) := by rw [hu54]; exact (va_up_ne _ _ (Nat.ne_of_gt l_h0_q37)).trans f_q37
  replace f_q40 : u54 q40 = some (.inl (cs 0, 4, .inl (fun _ => 0))) := by rw [hu54]; exact (va_up_ne _ _ (Nat.ne_of_gt l_h0_q40)).trans f_q40
  replace f_q43 : u54 q43 = some (.inl (cs 0, 4, .inl (fun _ => 0))) := by rw [hu54]; exact (va_up_ne _ _ (Nat.ne_of_gt l_h0_q43)).trans f_q43
  replace f_q46 : u54 q46 = some (.inl (cs 0, 1600, .inl (fun _ => 0))) := by rw [hu54]; exact (va_up_ne _ _ (Nat.ne_of_gt l_h0_q46)).trans f_q46
  replace f_q49 : u54 q49 = some (.inl (cs 0, 4, .inl (fun _ => 0))) := by rw [hu54]; exact (va_up_ne _ _ (Nat.ne_of_gt l_h0_q49)).trans f_q49
  replace f_q52 : u54 q52 = some (.inl (cs 0, 4, .inl (fun _ => 0))) := by rw [hu54]; exact (va_up_ne _ _ (Nat.ne_of_gt l_h0_q52)).trans f_q52
  replace f_h0 : u54 h0 = some (.inr (9, [.ref q1, .ref q4, .ref q7, .ref q10, .ref q13, .ref q16, .ref q19, .ref q22, .ref q25, .ref q28, .ref q31, .ref q34, .ref q37, .ref q40, .ref q43, .ref q46, .ref q49, .ref q52, .null, .int 0, .int 0, .int 0, .int 0, .int 0, .long 0, .null, .int 0, .int 0])) := by rw [hu54]; exact va_up_self _ _ _
  refine lv_aload_n hx hb dX9_init_138 rfl (lv_at hl 0 rfl) ?_
  refine lv_sipush (v := 320) hx hb dX9_init_139 (by decide) ?_
  have m_q1 := hF.lt f_q1
  have m_q4 := hF.lt f_q4
  have m_q7 := hF.lt f_q7
  have m_q10 := hF.lt f_q10
  have m_q13 := hF.lt f_q13
  have m_q16 := hF.lt f_q16
  have m_q19 := hF.lt f_q19
  have m_q22 := hF.lt f_q22
  have m_q25 := hF.lt f_q25
  have m_q28 := hF.lt f_q28
  have m_q31 := hF.lt f_q31
  have m_q34 := hF.lt f_q34
  have m_q37 := hF.lt f_q37
  have m_q40 := hF.lt f_q40
  have m_q43 := hF.lt f_q43
  have m_q46 := hF.lt f_q46
  have m_q49 := hF.lt f_q49
  have m_q52 := hF.lt f_q52
  have m_h0 := hF.lt f_h0
  refine fw_newa X hF hS (atype := .int) wm_85 rfl (fun _ h => by cases h) 0 rfl (N' := 320) (a0 := (320, .inl (fun _ => 0))) rfl (by decide) (by decide) (by decide) (Nat.le_of_ble_eq_true rfl) (Nat.le_of_ble_eq_true rfl) dX9_init_142 (fun q55 H nq55 zq55 zzq55 hF hS => ?_)
  have l_q1_q55 : q1 < q55 := Nat.lt_of_lt_of_le m_q1 (Nat.le_of_eq zq55.symm)
  have l_q4_q55 : q4 < q55 := Nat.lt_of_lt_of_le m_q4 (Nat.le_of_eq zq55.symm)
  have l_q7_q55 : q7 < q55 := Nat.lt_of_lt_of_le m_q7 (Nat.le_of_eq zq55.symm)
  have l_q10_q55 : q10 < q55 := Nat.lt_of_lt_of_le m_q10 (Nat.le_of_eq zq55.symm)
  have l_q13_q55 : q13 < q55 := Nat.lt_of_lt_of_le m_q13 (Nat.le_of_eq zq55.symm)
  have l_q16_q55 : q16 < q55 := Nat.lt_of_lt_of_le m_q16 (Nat.le_of_eq zq55.symm)
  have l_q19_q55 : q19 < q55 := Nat.lt_of_lt_of_le m_q19 (Nat.le_of_eq zq55.symm)
  have l_q22_q55 : q22 < q55 := Nat.lt_of_lt_of_le m_q22 (Nat.le_of_eq zq55.symm)
  have l_q25_q55 : q25 < q55 := Nat.lt_of_lt_of_le m_q25 (Nat.le_of_eq zq55.symm)
  have l_q28_q55 : q28 < q55 := Nat.lt_of_lt_of_le m_q28 (Nat.le_of_eq zq55.symm)
  have l_q31_q55 : q31 < q55 := Nat.lt_of_lt_of_le m_q31 (Nat.le_of_eq zq55.symm)
  have l_q34_q55 : q34 < q55 := Nat.lt_of_lt_of_le m_q34 (Nat.le_of_eq zq55.symm)
  have l_q37_q55 : q37 < q55 := Nat.lt_of_lt_of_le m_q37 (Nat.le_of_eq zq55.symm)
  have l_q40_q55 : q40 < q55 := Nat.lt_of_lt_of_le m_q40 (Nat.le_of_eq zq55.symm)
  have l_q43_q55 : q43 < q55 := Nat.lt_of_lt_of_le m_q43 (Nat.le_of_eq zq55.symm)
  have l_q46_q55 : q46 < q55 := Nat.lt_of_lt_of_le m_q46 (Nat.le_of_eq zq55.symm)
  have l_q49_q55 : q49 < q55 := Nat.lt_of_lt_of_le m_q49 (Nat.le_of_eq zq55.symm)
  have l_q52_q55 : q52 < q55 := Nat.lt_of_lt_of_le m_q52 (Nat.le_of_eq zq55.symm)
  have l_h0_q55 : h0 < q55 := Nat.lt_of_lt_of_le m_h0 (Nat.le_of_eq zq55.symm)
  clear m_q1 m_q4 m_q7 m_q10 m_q13 m_q16 m_q19 m_q22 m_q25 m_q28 m_q31 m_q34 m_q37 m_q40 m_q43 m_q46 m_q49 m_q52 m_h0
  have hF : fw_P D cls10 A (va_up u54 q55 (some (.inl (cs 0, 320, .inl (fun _ => 0))))) H := hF
  obtain ⟨u56, hu56⟩ : ∃ y : fW, y = va_up u54 q55 (some (.inl (cs 0, 320, .inl (fun _ => 0)))) := ⟨_, rfl⟩
  rw [← hu56] at hF
  replace f_q1 : u56 q1 = some (.inl (cs 1, 4, .inl (fun _ => 0))) := by rw [hu56]; exact (va_up_ne _ _ (Nat.ne_of_lt l_q1_q55)).trans f_q1
  replace f_q4 : u56 q4 = some (.inl (cs 0, 4, .inl (fun _ => 0))) := by rw [hu56]; exact (va_up_ne _ _ (Nat.ne_of_lt l_q4_q55)).trans f_q4
  replace f_q7 : u56 q7 = some (.inl (cs 0, 8, .inl (fun _ => 0))) := by rw [hu56]; exact (va_up_ne _ _ (Nat.ne_of_lt l_q7_q55)).trans f_q7
  replace f_q10 : u56 q10 = some (.inl (cs 0, 4, .inl (fun _ => 0))) := by rw [hu56]; exact (va_up_ne _ _ (Nat.ne_of_lt l_q10_q55)).trans f_q10
  replace f_q13 : u56 q13 = some (.inl (cs 0, 4, .inl (fun _ => 0))) := by rw [hu56]; exact (va_up_ne _ _ (Nat.ne_of_lt l_q13_q55)).trans f_q13
  replace f_q16 : u56 q16 = some (.inl (cs 0, 100, .inl (fun _ => 0))) := by rw [hu56]; exact (va_up_ne _ _ (Nat.ne_of_lt l_q16_q55)).trans f_q16
  replace f_q19 : u56 q19 = some (.inl (cs 0, 100, .inl (fun _ => 0))) := by rw [hu56]; exact (va_up_ne _ _ (Nat.ne_of_lt l_q19_q55)).trans f_q19
  replace f_q22 : u56 q22 = some (.inl (cs 1, 100, .inl (fun _ => 0))) := by rw [hu56]; exact (va_up_ne _ _ (Nat.ne_of_lt l_q22_q55)).trans f_q22
  replace f_q25 : u56 q25 = some (.inl (cs 0, 4, .inl (fun _ => 0))) := by rw [hu56]; exact (va_up_ne _ _ (Nat.ne_of_lt l_q25_q55)).trans f_q25
  replace f_q28 : u56 q28 = some (.inl (cs 0, 80, .inl (fun _ => 0))) := by rw [hu56]; exact (va_up_ne _ _ (Nat.ne_of_lt l_q28_q55)).trans f_q28
  replace f_q31 : u56 q31 = some (.inl (cs 0, 4, .inl (fun _ => 0))) := by rw [hu56]; exact (va_up_ne _ _ (Nat.ne_of_lt l_q31_q55)).trans f_q31
  replace f_q34 : u56 q34 = some (.inl (cs 1, 4, .inl (fun _ => 0))) := by rw [hu56]; exact (va_up_ne _ _ (Nat.ne_of_lt l_q34_q55)).trans f_q34
  replace f_q37 : u56 q37 = some (.inl (cs 0, 80, .inl (fun _ => 0))) := by rw [hu56]; exact (va_up_ne _ _ (Nat.ne_of_lt l_q37_q55)).trans f_q37
  replace f_q40 : u56 q40 = some (.inl (cs 0, 4, .inl (fun _ => 0))) := by rw [hu56]; exact (va_up_ne _ _ (Nat.ne_of_lt l_q40_q55)).trans f_q40
  replace f_q43 : u56 q43 = some (.inl (cs 0, 4, .inl (fun _ => 0))) := by rw [hu56]; exact (va_up_ne _ _ (Nat.ne_of_lt l_q43_q55)).trans f_q43
  replace f_q46 : u56 q46 = some (.inl (cs 0, 1600, .inl (fun _ => 0))) := by rw [hu56]; exact (va_up_ne _ _ (Nat.ne_of_lt l_q46_q55)).trans f_q46
  replace f_q49 : u56 q49 = some (.inl (cs 0, 4, .inl (fun _ => 0))) := by rw [hu56]; exact (va_up_ne _ _ (Nat.ne_of_lt l_q49_q55)).trans f_q49
  replace f_q52 : u56 q52 = some (.inl (cs 0, 4, .inl (fun _ => 0))) := by rw [hu56]; exact (va_up_ne _ _ (Nat.ne_of_lt l_q52_q55)).trans f_q52
  replace f_h0 : u56 h0 = some (.inr (9, [.ref q1, .ref q4, .ref q7, .ref q10, .ref q13, .ref q16, .ref q19, .ref q22, .ref q25, .ref q28, .ref q31, .ref q34, .ref q37, .ref q40, .ref q43, .ref q46, .ref q49, .ref q52, .null, .int 0, .int 0, .int 0, .int 0, .int 0, .long 0, .null, .int 0, .int 0])) := by rw [hu56]; exact (va_up_ne _ _ (Nat.ne_of_lt l_h0_q55)).trans f_h0
  have f_q55 : u56 q55 = some (.inl (cs 0, 320, .inl (fun _ => 0))) := by rw [hu56]; exact va_up_self _ _ _
  refine fw_putF X gC_ok hF hS f_h0 rfl 18 (by decide) wm_497 rfl hnm rfl (tf := .array .int) (by decide +kernel) rfl rfl (Nat.le_of_ble_eq_true rfl) dX9_init_144 (fun H locs hF hS => ?_)
  have hF : fw_P D cls10 A (va_up u56 h0 (some (.inr (9, [.ref q1, .ref q4, .ref q7, .ref q10, .ref q13, .ref q16, .ref q19, .ref q22, .ref q25, .ref q28, .ref q31, .ref q34, .ref q37, .ref q40, .ref q43, .ref q46, .ref q49, .ref q52, .ref q55, .int 0, .int 0, .int 0, .int 0, .int 0, .long 0, .null, .int 0, .int 0])))) H := hF
  obtain ⟨u57, hu57⟩ : ∃ y : fW, y = va_up u56 h0 (some (.inr (9, [.ref q1, .ref q4, .ref q7, .ref q10, .ref q13, .ref q16, .ref q19, .ref q22, .ref q25, .ref q28, .ref q31, .ref q34, .ref q37, .ref q40, .ref q43, .ref q46, .ref q49, .ref q52, .ref q55, .int 0, .int 0, .int 0, .int 0, .int 0, .long 0, .null, .int 0, .int 0]))) := ⟨_, rfl⟩
  rw [← hu57] at hF
  replace f_q1 : u57 q1 = some (.inl (cs 1, 4, .inl (fun _ => 0))) := by rw [hu57]; exact (va_up_ne _ _ (Nat.ne_of_gt l_h0_q1)).trans f_q1
  replace f_q4 : u57 q4 = some (.inl (cs 0, 4, .inl (fun _ => 0))) := by rw [hu57]; exact (va_up_ne _ _ (Nat.ne_of_gt l_h0_q4)).trans f_q4
  replace f_q7 : u57 q7 = some (.inl (cs 0, 8, .inl (fun _ => 0))) := by rw [hu57]; exact (va_up_ne _ _ (Nat.ne_of_gt l_h0_q7)).trans f_q7
  replace f_q10 : u57 q10 = some (.inl (cs 0, 4, .inl (fun _ => 0))) := by rw [hu57]; exact (va_up_ne _ _ (Nat.ne_of_gt l_h0_q10)).trans f_q10
  replace f_q13 : u57 q13 = some (.inl (cs 0, 4, .inl (fun _ => 0))) := by rw [hu57]; exact (va_up_ne _ _ (Nat.ne_of_gt l_h0_q13)).trans f_q13
  replace f_q16 : u57 q16 = some (.inl (cs 0, 100, .inl (fun _ => 0))) := by rw [hu57]; exact (va_up_ne _ _ (Nat.ne_of_gt l_h0_q16)).trans f_q16
  replace f_q19 : u57 q19 = some (.inl (cs 0, 100, .inl (fun _ => 0))) := by rw [hu57]; exact (va_up_ne _ _ (Nat.ne_of_gt l_h0_q19)).trans f_q19
  replace f_q22 : u57 q22 = some (.inl (cs 1, 100, .inl (fun _ => 0))) := by rw [hu57]; exact (va_up_ne _ _ (Nat.ne_of_gt l_h0_q22)).trans f_q22
  replace f_q25 : u57 q25 = some (.inl (cs 0, 4, .inl (fun _ => 0))) := by rw [hu57]; exact (va_up_ne _ _ (Nat.ne_of_gt l_h0_q25)).trans f_q25
  replace f_q28 : u57 q28 = some (.inl (cs 0, 80, .inl (fun _ => 0))) := by rw [hu57]; exact (va_up_ne _ _ (Nat.ne_of_gt l_h0_q28)).trans f_q28
  replace f_q31 : u57 q31 = some (.inl (cs 0, 4, .inl (fun _ => 0))) := by rw [hu57]; exact (va_up_ne _ _ (Nat.ne_of_gt l_h0_q31)).trans f_q31
  replace f_q34 : u57 q34 = some (.inl (cs 1, 4, .inl (fun _ => 0))) := by rw [hu57]; exact (va_up_ne _ _ (Nat.ne_of_gt l_h0_q34)).trans f_q34
  replace f_q37 : u57 q37 = some (.inl (cs 0, 80, .inl (fun _ => 0))) := by rw [hu57]; exact (va_up_ne _ _ (Nat.ne_of_gt l_h0_q37)).trans f_q37
  replace f_q40 : u57 q40 = some (.inl (cs 0, 4, .inl (fun _ => 0))) := by rw [hu57]; exact (va_up_ne _ _ (Nat.ne_of_gt l_h0_q40)).trans f_q40
  replace f_q43 : u57 q43 = some (.inl (cs 0, 4, .inl (fun _ => 0))) := by rw [hu57]; exact (va_up_ne _ _ (Nat.ne_of_gt l_h0_q43)).trans f_q43
  replace f_q46 : u57 q46 = some (.inl (cs 0, 1600, .inl (fun _ => 0))) := by rw [hu57]; exact (va_up_ne _ _ (Nat.ne_of_gt l_h0_q46)).trans f_q46
  replace f_q49 : u57 q49 = some (.inl (cs 0, 4, .inl (fun _ => 0))) := by rw [hu57]; exact (va_up_ne _ _ (Nat.ne_of_gt l_h0_q49)).trans f_q49
  replace f_q52 : u57 q52 = some (.inl (cs 0, 4, .inl (fun _ => 0))) := by rw [hu57]; exact (va_up_ne _ _ (Nat.ne_of_gt l_h0_q52)).trans f_q52
  replace f_q55 : u57 q55 = some (.inl (cs 0, 320, .inl (fun _ => 0))) := by rw [hu57]; exact (va_up_ne _ _ (Nat.ne_of_gt l_h0_q55)).trans f_q55
  replace f_h0 : u57 h0 = some (.inr (9, [.ref q1, .ref q4, .ref q7, .ref q10, .ref q13, .ref q16, .ref q19, .ref q22, .ref q25, .ref q28, .ref q31, .ref q34, .ref q37, .ref q40, .ref q43, .ref q46, .ref q49, .ref q52, .ref q55, .int 0, .int 0, .int 0, .int 0, .int 0, .long 0, .null, .int 0, .int 0])) := by rw [hu57]; exact va_up_self _ _ _
  refine lv_aload_n hx hb dX9_init_147 rfl (lv_at hl 0 rfl) ?_
  refine lv_iconst (v := (-1)) hx hb dX9_init_148 (by decide) ?_
  refine fw_put X gC_ok hF hS f_h0 rfl 22 (by decide) wm_501 rfl (tf := .int) (by decide +kernel) rfl rfl (Nat.le_of_ble_eq_true rfl) dX9_init_149 (fun H locs hF hS => ?_)
  have hF : fw_P D cls10 A (va_up u57 h0 (some (.inr (9, [.ref q1, .ref q4, .ref q7, .ref q10, .ref q13, .ref q16, .ref q19, .ref q22, .ref q25, .ref q28, .ref q31, .ref q34, .ref q37, .ref q40, .ref q43, .ref q46, .ref q49, .ref q52, .ref q55, .int 0, .int 0, .int 0, .int (-1), .int 0, .long 0, .null, .int 0, .int 0])))) H := hF
  obtain ⟨u58, hu58⟩ : ∃ y : fW, y = va_up u57 h0 (some (.inr (9, [.ref q1, .ref q4, .ref q7, .ref q10, .ref q13, .ref q16, .ref q19, .ref q22, .ref q25, .ref q28, .ref q31, .ref q34, .ref q37, .ref q40, .ref q43, .ref q46, .ref q49, .ref q52, .ref q55, .int 0, .int 0, .int 0, .int (-1), .int 0, .long 0, .null, .int 0, .int 0]))) := ⟨_, rfl⟩
  rw [← hu58] at hF
  replace f_q1 : u58 q1 = some (.inl (cs 1, 4, .inl (fun _ => 0))) := by rw [hu58]; exact (va_up_ne _ _ (Nat.ne_of_gt l_h0_q1)).trans f_q1
  replace f_q4 : u58 q4 = some (.inl (cs 0, 4, .inl (fun _ => 0))) := by rw [hu58]; exact (va_up_ne _ _ (Nat.ne_of_gt l_h0_q4)).trans f_q4
  replace f_q7 : u58 q7 = some (.inl (cs 0, 8, .inl (fun _ => 0))) := by rw [hu58]; exact (va_up_ne _ _ (Nat.ne_of_gt l_h0_q7)).trans f_q7
  replace f_q10 : u58 q10 = some (.inl (cs 0, 4, .inl (fun _ => 0))) := by rw [hu58]; exact (va_up_ne _ _ (Nat.ne_of_gt l_h0_q10)).trans f_q10
  replace f_q13 : u58 q13 = some (.inl (cs 0, 4, .inl (fun _ => 0))) := by rw [hu58]; exact (va_up_ne _ _ (Nat.ne_of_gt l_h0_q13)).trans f_q13
  replace f_q16 : u58 q16 = some (.inl (cs 0, 100, .inl (fun _ => 0))) := by rw [hu58]; exact (va_up_ne _ _ (Nat.ne_of_gt l_h0_q16)).trans f_q16
  replace f_q19 : u58 q19 = some (.inl (cs 0, 100, .inl (fun _ => 0))) := by rw [hu58]; exact (va_up_ne _ _ (Nat.ne_of_gt l_h0_q19)).trans f_q19
  replace f_q22 : u58 q22 = some (.inl (cs 1, 100, .inl (fun _ => 0))) := by rw [hu58]; exact (va_up_ne _ _ (Nat.ne_of_gt l_h0_q22)).trans f_q22
  replace f_q25 : u58 q25 = some (.inl (cs 0, 4, .inl (fun _ => 0))) := by rw [hu58]; exact (va_up_ne _ _ (Nat.ne_of_gt l_h0_q25)).trans f_q25
  replace f_q28 : u58 q28 = some (.inl (cs 0, 80, .inl (fun _ => 0))) := by rw [hu58]; exact (va_up_ne _ _ (Nat.ne_of_gt l_h0_q28)).trans f_q28
  replace f_q31 : u58 q31 = some (.inl (cs 0, 4, .inl (fun _ => 0))) := by rw [hu58]; exact (va_up_ne _ _ (Nat.ne_of_gt l_h0_q31)).trans f_q31
  replace f_q34 : u58 q34 = some (.inl (cs 1, 4, .inl (fun _ => 0))) := by rw [hu58]; exact (va_up_ne _ _ (Nat.ne_of_gt l_h0_q34)).trans f_q34
  replace f_q37 : u58 q37 = some (.inl (cs 0, 80, .inl (fun _ => 0))) := by rw [hu58]; exact (va_up_ne _ _ (Nat.ne_of_gt l_h0_q37)).trans f_q37
  replace f_q40 : u58 q40 = some (.inl (cs 0, 4, .inl (fun _ => 0))) := by rw [hu58]; exact (va_up_ne _ _ (Nat.ne_of_gt l_h0_q40)).trans f_q40
  replace f_q43 : u58 q43 = some (.inl (cs 0, 4, .inl (fun _ => 0))) := by rw [hu58]; exact (va_up_ne _ _ (Nat.ne_of_gt l_h0_q43)).trans f_q43
  replace f_q46 : u58 q46 = some (.inl (cs 0, 1600, .inl (fun _ => 0))) := by rw [hu58]; exact (va_up_ne _ _ (Nat.ne_of_gt l_h0_q46)).trans f_q46
  replace f_q49 : u58 q49 = some (.inl (cs 0, 4, .inl (fun _ => 0))) := by rw [hu58]; exact (va_up_ne _ _ (Nat.ne_of_gt l_h0_q49)).trans f_q49
  replace f_q52 : u58 q52 = some (.inl (cs 0, 4, .inl (fun _ => 0))) := by rw [hu58]; exact (va_up_ne _ _ (Nat.ne_of_gt l_h0_q52)).trans f_q52
  replace f_q55 : u58 q55 = some (.inl (cs 0, 320, .inl (fun _ => 0))) := by rw [hu58]; exact (va_up_ne _ _ (Nat.ne_of_gt l_h0_q55)).trans f_q55
  replace f_h0 : u58 h0 = some (.inr (9, [.ref q1, .ref q4, .ref q7, .ref q10, .ref q13, .ref q16, .ref q19, .ref q22, .ref q25, .ref q28, .ref q31, .ref q34, .ref q37, .ref q40, .ref q43, .ref q46, .ref q49, .ref q52, .ref q55, .int 0, .int 0, .int 0, .int (-1), .int 0, .long 0, .null, .int 0, .int 0])) := by rw [hu58]; exact va_up_self _ _ _
  refine lv_aload_n hx hb dX9_init_152 rfl (lv_at hl 0 rfl) ?_
  refine lv_bipush (v := 8) hx hb dX9_init_153 (by decide) ?_
  have m_q1 := hF.lt f_q1
  have m_q4 := hF.lt f_q4
  have m_q7 := hF.lt f_q7
  have m_q10 := hF.lt f_q10
  have m_q13 := hF.lt f_q13
  have m_q16 := hF.lt f_q16
  have m_q19 := hF.lt f_q19
  have m_q22 := hF.lt f_q22
  have m_q25 := hF.lt f_q25
  have m_q28 := hF.lt f_q28
  have m_q31 := hF.lt f_q31
  have m_q34 := hF.lt f_q34
  have m_q37 := hF.lt f_q37
  have m_q40 := hF.lt f_q40
  have m_q43 := hF.lt f_q43
  have m_q46 := hF.lt f_q46
  have m_q49 := hF.lt f_q49
  have m_q52 := hF.lt f_q52
  have m_q55 := hF.lt f_q55
  have m_h0 := hF.lt f_h0
  refine fw_newa X hF hS (atype := .int) wm_85 rfl (fun _ h => by cases h) 0 rfl (N' := 8) (a0 := (8, .inl (fun _ => 0))) rfl (by decide) (by decide) (by decide) (Nat.le_of_ble_eq_true rfl) (Nat.le_of_ble_eq_true rfl) dX9_init_155 (fun q59 H nq59 zq59 zzq59 hF hS => ?_)
  have l_q1_q59 : q1 < q59 := Nat.lt_of_lt_of_le m_q1 (Nat.le_of_eq zq59.symm)
  have l_q4_q59 : q4 < q59 := Nat.lt_of_lt_of_le m_q4 (Nat.le_of_eq zq59.symm)
  have l_q7_q59 : q7 < q59 := Nat.lt_of_lt_of_le m_q7 (Nat.le_of_eq zq59.symm)
  have l_q10_q59 : q10 < q59 := Nat.lt_of_lt_of_le m_q10 (Nat.le_of_eq zq59.symm)
  have l_q13_q59 : q13 < q59 := Nat.lt_of_lt_of_le m_q13 (Nat.le_of_eq zq59.symm)
  have l_q16_q59 : q16 < q59 := Nat.lt_of_lt_of_le m_q16 (Nat.le_of_eq zq59.symm)
  have l_q19_q59 : q19 < q59 := Nat.lt_of_lt_of_le m_q19 (Nat.le_of_eq zq59.symm)
  have l_q22_q59 : q22 < q59 := Nat.lt_of_lt_of_le m_q22 (Nat.le_of_eq zq59.symm)
  have l_q25_q59 : q25 < q59 := Nat.lt_of_lt_of_le m_q25 (Nat.le_of_eq zq59.symm)
  have l_q28_q59 : q28 < q59 := Nat.lt_of_lt_of_le m_q28 (Nat.le_of_eq zq59.symm)
  have l_q31_q59 : q31 < q59 := Nat.lt_of_lt_of_le m_q31 (Nat.le_of_eq zq59.symm)
  have l_q34_q59 : q34 < q59 := Nat.lt_of_lt_of_le m_q34 (Nat.le_of_eq zq59.symm)
  have l_q37_q59 : q37 < q59 := Nat.lt_of_lt_of_le m_q37 (Nat.le_of_eq zq59.symm)
  have l_q40_q59 : q40 < q59 := Nat.lt_of_lt_of_le m_q40 (Nat.le_of_eq zq59.symm)
  have l_q43_q59 : q43 < q59 := Nat.lt_of_lt_of_le m_q43 (Nat.le_of_eq zq59.symm)
  have l_q46_q59 : q46 < q59 := Nat.lt_of_lt_of_le m_q46 (Nat.le_of_eq zq59.symm)
  have l_q49_q59 : q49 < q59 := Nat.lt_of_lt_of_le m_q49 (Nat.le_of_eq zq59.symm)
  have l_q52_q59 : q52 < q59 := Nat.lt_of_lt_of_le m_q52 (Nat.le_of_eq zq59.symm)
  have l_q55_q59 : q55 < q59 := Nat.lt_of_lt_of_le m_q55 (Nat.le_of_eq zq59.symm)
  have l_h0_q59 : h0 < q59 := Nat.lt_of_lt_of_le m_h0 (Nat.le_of_eq zq59.symm)
  clear m_q1 m_q4 m_q7 m_q10 m_q13 m_q16 m_q19 m_q22 m_q25 m_q28 m_q31 m_q34 m_q37 m_q40 m_q43 m_q46 m_q49 m_q52 m_q55 m_h0
  have hF : fw_P D cls10 A (va_up u58 q59 (some (.inl (cs 0, 8, .inl (fun _ => 0))))) H := hF
  obtain ⟨u60, hu60⟩ : ∃ y : fW, y = va_up u58 q59 (some (.inl (cs 0, 8, .inl (fun _ => 0)))) := ⟨_, rfl⟩
  rw [← hu60] at hF
  replace f_q1 : u60 q1 = some (.inl (cs 1, 4, .inl (fun _ => 0))) := by rw [hu60]; exact (va_up_ne _ _ (Nat.ne_of_lt l_q1_q59)).trans f_q1
  replace f_q4 : u60 q4 = some (.inl (cs 0, 4, .inl (fun _ => 0))) := by rw [hu60]; exact (va_up_ne _ _ (Nat.ne_of_lt l_q4_q59)).trans f_q4
  replace f_q7 : u60 q7 = some (.inl (cs 0, 8, .inl (fun _ => 0))) := by rw [hu60]; exact (va_up_ne _ _ (Nat.ne_of_lt l_q7_q59)).trans f_q7
  replace f_q10 : u60 q10 = some (.inl (cs 0, 4, .inl (fun _ => 0))) := by rw [hu60]; exact (va_up_ne _ _ (Nat.ne_of_lt l_q10_q59)).trans f_q10
  replace f_q13 : u60 q13 = some (.inl (cs 0, 4, .inl (fun _ => 0))) := by rw [hu60]; exact (va_up_ne _ _ (Nat.ne_of_lt l_q13_q59)).trans f_q13
  replace f_q16 : u60 q16 = some (.inl (cs 0, 100, .inl (fun _ => 0))) := by rw [hu60]; exact (va_up_ne _ _ (Nat.ne_of_lt l_q16_q59)).trans f_q16
  replace f_q19 : u60 q19 = some (.inl (cs 0, 100, .inl (fun _ => 0))) := by rw [hu60]; exact (va_up_ne _ _ (Nat.ne_of_lt l_q19_q59)).trans f_q19
  replace f_q22 : u60 q22 = some (.inl (cs 1, 100, .inl (fun _ => 0))) := by rw [hu60]; exact (va_up_ne _ _ (Nat.ne_of_lt l_q22_q59)).trans f_q22
  replace f_q25 : u60 q25 = some (.inl (cs 0, 4, .inl (fun _ => 0))) := by rw [hu60]; exact (va_up_ne _ _ (Nat.ne_of_lt l_q25_q59)).trans f_q25
  replace f_q28 : u60 q28 = some (.inl (cs 0, 80, .inl (fun _ => 0))) := by rw [hu60]; exact (va_up_ne _ _ (Nat.ne_of_lt l_q28_q59)).trans f_q28
  replace f_q31 : u60 q31 = some (.inl (cs 0, 4, .inl (fun _ => 0))) := by rw [hu60]; exact (va_up_ne _ _ (Nat.ne_of_lt l_q31_q59)).trans f_q31
  replace f_q34 : u60 q34 = some (.inl (cs 1, 4, .inl (fun _ => 0))) := by rw [hu60]; exact (va_up_ne _ _ (Nat.ne_of_lt l_q34_q59)).trans f_q34
  replace f_q37 : u60 q37 = some (.inl (cs 0, 80, .inl (fun _ => 0))) := by rw [hu60]; exact (va_up_ne _ _ (Nat.ne_of_lt l_q37_q59)).trans f_q37
  replace f_q40 : u60 q40 = some (.inl (cs 0, 4, .inl (fun _ => 0))) := by rw [hu60]; exact (va_up_ne _ _ (Nat.ne_of_lt l_q40_q59)).trans f_q40
  replace f_q43 : u60 q43 = some (.inl (cs 0, 4, .inl (fun _ => 0))) := by rw [hu60]; exact (va_up_ne _ _ (Nat.ne_of_lt l_q43_q59)).trans f_q43
  replace f_q46 : u60 q46 = some (.inl (cs 0, 1600, .inl (fun _ => 0))) := by rw [hu60]; exact (va_up_ne _ _ (Nat.ne_of_lt l_q46_q59)).trans f_q46
  replace f_q49 : u60 q49 = some (.inl (cs 0, 4, .inl (fun _ => 0))) := by rw [hu60]; exact (va_up_ne _ _ (Nat.ne_of_lt l_q49_q59)).trans f_q49
  replace f_q52 : u60 q52 = some (.inl (cs 0, 4, .inl (fun _ => 0))) := by rw [hu60]; exact (va_up_ne _ _ (Nat.ne_of_lt l_q52_q59)).trans f_q52
  replace f_q55 : u60 q55 = some (.inl (cs 0, 320, .inl (fun _ => 0))) := by rw [hu60]; exact (va_up_ne _ _ (Nat.ne_of_lt l_q55_q59)).trans f_q55
  replace f_h0 : u60 h0 = some (.inr (9, [.ref q1, .ref q4, .ref q7, .ref q10, .ref q13, .ref q16, .ref q19, .ref q22, .ref q25, .ref q28, .ref q31, .ref q34, .ref q37, .ref q40, .ref q43, .ref q46, .ref q49, .ref q52, .ref q55, .int 0, .int 0, .int 0, .int (-1), .int 0, .long 0, .null, .int 0, .int 0])) := by rw [hu60]; exact (va_up_ne _ _ (Nat.ne_of_lt l_h0_q59)).trans f_h0
  have f_q59 : u60 q59 = some (.inl (cs 0, 8, .inl (fun _ => 0))) := by rw [hu60]; exact va_up_self _ _ _
  refine fw_putF X gC_ok hF hS f_h0 rfl 25 (by decide) wm_504 rfl hnm rfl (tf := .array .int) (by decide +kernel) rfl rfl (Nat.le_of_ble_eq_true rfl) dX9_init_157 (fun H locs hF hS => ?_)
  have hF : fw_P D cls10 A (va_up u60 h0 (some (.inr (9, [.ref q1, .ref q4, .ref q7, .ref q10, .ref q13, .ref q16, .ref q19, .ref q22, .ref q25, .ref q28, .ref q31, .ref q34, .ref q37, .ref q40, .ref q43, .ref q46, .ref q49, .ref q52, .ref q55, .int 0, .int 0, .int 0, .int (-1), .int 0, .long 0, .ref q59, .int 0, .int 0])))) H := hF
  obtain ⟨u61, hu61⟩ : ∃ y : fW, y = va_up u60 h0 (some (.inr (9, [.ref q1, .ref q4, .ref q7, .ref q10, .ref q13, .ref q16, .ref q19, .ref q22, .ref q25, .ref q28, .ref q31, .ref q34, .ref q37, .ref q40, .ref q43, .ref q46, .ref q49, .ref q52, .ref q55, .int 0, .int 0, .int 0, .int (-1), .int 0, .long 0, .ref q59, .int 0, .int 0]))) := ⟨_, rfl⟩
  rw [← hu61] at hF
  replace f_q1 : u61 q1 = some (.inl (cs 1, 4, .inl (fun _ => 0))) := by rw [hu61]; exact (va_up_ne _ _ (Nat.ne_of_gt l_h0_q1)).trans f_q1
  replace f_q4 : u61 q4 = some (.inl (cs 0, 4, .inl (fun _ => 0))) := by rw [hu61]; exact (va_up_ne _ _ (Nat.ne_of_gt l_h0_q4)).trans f_q4
  replace f_q7 : u61 q7 = some (.inl (cs 0, 8, .inl (fun _ => 0))) := by rw [hu61]; exact (va_up_ne _ _ (Nat.ne_of_gt l_h0_q7)).trans f_q7
  replace f_q10 : u61 q10 = some (.inl (cs 0, 4, .inl (fun _ => 0))) := by rw [hu61]; exact (va_up_ne _ _ (Nat.ne_of_gt l_h0_q10)).trans f_q10
  replace f_q13 : u61 q13 = some (.inl (cs 0, 4, .inl (fun _ => 0))) := by rw [hu61]; exact (va_up_ne _ _ (Nat.ne_of_gt l_h0_q13)).trans f_q13
  replace f_q16 : u61 q16 = some (.inl (cs 0, 100, .inl (fun _ => 0))) := by rw [hu61]; exact (va_up_ne _ _ (Nat.ne_of_gt l_h0_q16)).trans f_q16
  replace f_q19 : u61 q19 = some (.inl (cs 0, 100, .inl (fun _ => 0))) := by rw [hu61]; exact (va_up_ne _ _ (Nat.ne_of_gt l_h0_q19)).trans f_q19
  replace f_q22 : u61 q22 = some (.inl (cs 1, 100, .inl (fun _ => 0))) := by rw [hu61]; exact (va_up_ne _ _ (Nat.ne_of_gt l_h0_q22)).trans f_q22
  replace f_q25 : u61 q25 = some (.inl (cs 0, 4, .inl (fun _ => 0))) := by rw [hu61]; exact (va_up_ne _ _ (Nat.ne_of_gt l_h0_q25)).trans f_q25
  replace f_q28 : u61 q28 = some (.inl (cs 0, 80, .inl (fun _ => 0))) := by rw [hu61]; exact (va_up_ne _ _ (Nat.ne_of_gt l_h0_q28)).trans f_q28
  replace f_q31 : u61 q31 = some (.inl (cs 0, 4, .inl (fun _ => 0))) := by rw [hu61]; exact (va_up_ne _ _ (Nat.ne_of_gt l_h0_q31)).trans f_q31
  replace f_q34 : u61 q34 = some (.inl (cs 1, 4, .inl (fun _ => 0))) := by rw [hu61]; exact (va_up_ne _ _ (Nat.ne_of_gt l_h0_q34)).trans f_q34
  replace f_q37 : u61 q37 = some (.inl (cs 0, 80, .inl (fun _ => 0))) := by rw [hu61]; exact (va_up_ne _ _ (Nat.ne_of_gt l_h0_q37)).trans f_q37
  replace f_q40 : u61 q40 = some (.inl (cs 0, 4, .inl (fun _ => 0))) := by rw [hu61]; exact (va_up_ne _ _ (Nat.ne_of_gt l_h0_q40)).trans f_q40
  replace f_q43 : u61 q43 = some (.inl (cs 0, 4, .inl (fun _ => 0))) := by rw [hu61]; exact (va_up_ne _ _ (Nat.ne_of_gt l_h0_q43)).trans f_q43
  replace f_q46 : u61 q46 = some (.inl (cs 0, 1600, .inl (fun _ => 0))) := by rw [hu61]; exact (va_up_ne _ _ (Nat.ne_of_gt l_h0_q46)).trans f_q46
  replace f_q49 : u61 q49 = some (.inl (cs 0, 4, .inl (fun _ => 0))) := by rw [hu61]; exact (va_up_ne _ _ (Nat.ne_of_gt l_h0_q49)).trans f_q49
  replace f_q52 : u61 q52 = some (.inl (cs 0, 4, .inl (fun _ => 0))) := by rw [hu61]; exact (va_up_ne _ _ (Nat.ne_of_gt l_h0_q52)).trans f_q52
  replace f_q55 : u61 q55 = some (.inl (cs 0, 320, .inl (fun _ => 0))) := by rw [hu61]; exact (va_up_ne _ _ (Nat.ne_of_gt l_h0_q55)).trans f_q55
  replace f_q59 : u61 q59 = some (.inl (cs 0, 8, .inl (fun _ => 0))) := by rw [hu61]; exact (va_up_ne _ _ (Nat.ne_of_gt l_h0_q59)).trans f_q59
  replace f_h0 : u61 h0 = some (.inr (9, [.ref q1, .ref q4, .ref q7, .ref q10, .ref q13, .ref q16, .ref q19, .ref q22, .ref q25, .ref q28, .ref q31, .ref q34, .ref q37, .ref q40, .ref q43, .ref q46, .ref q49, .ref q52, .ref q55, .int 0, .int 0, .int 0, .int (-1), .int 0, .long 0, .ref q59, .int 0, .int 0])) := by rw [hu61]; exact va_up_self _ _ _
  obtain ⟨zz9, hzz⟩ : ∃ z, z = H.size := ⟨_, rfl⟩
  have l_q59_zz9 : q59 < zz9 := by rw [hzz]; exact hF.lt f_q59
  obtain ⟨am, had⟩ : ∃ am : Nat → Nat, am = (fun t => ([q1, q4, q7, q10, q13, q16, q19, q22, q25, q28, q31, q34, q37, q40, q43, q46, q49, q52, q55, zz9, zz9 + 1, zz9 + 2, zz9 + 3, zz9 + 4, zz9 + 5, q59, zz9 + 6, zz9 + 7, h0] : List Nat).getD t 0) := ⟨_, rfl⟩
  have hai : amI am := by
    refine am_inj [h0, q1, q4, q7, q10, q13, q16, q19, q22, q25, q28, q31, q34, q37, q40, q43, q46, q49, q52, q55, q59, zz9, zz9 + 1, zz9 + 2, zz9 + 3, zz9 + 4, zz9 + 5, zz9 + 6, zz9 + 7] [1, 2, 3, 4, 5, 6, 7, 8, 9, 10, 11, 12, 13, 14, 15, 16, 17, 18, 19, 21, 22, 23, 24, 25, 26, 20, 27, 28, 0] (mono_of _ 29 (fun k hk => ?_)) (by decide +kernel) (fun t ht => ?_)
    · match k, hk with
      | 0, _ => exact l_h0_q1
      | 1, _ => exact l_q1_q4
      | 2, _ => exact l_q4_q7
      | 3, _ => exact l_q7_q10
      | 4, _ => exact l_q10_q13
      | 5, _ => exact l_q13_q16
      | 6, _ => exact l_q16_q19
      | 7, _ => exact l_q19_q22
      | 8, _ => exact l_q22_q25
      | 9, _ => exact l_q25_q28
      | 10, _ => exact l_q28_q31
      | 11, _ => exact l_q31_q34
      | 12, _ => exact l_q34_q37
      | 13, _ => exact l_q37_q40
      | 14, _ => exact l_q40_q43
      | 15, _ => exact l_q43_q46
      | 16, _ => exact l_q46_q49
      | 17, _ => exact l_q49_q52
      | 18, _ => exact l_q52_q55
      | 19, _ => exact l_q55_q59
      | 20, _ => exact l_q59_zz9
      | 21, _ => exact Nat.lt_succ_self _
      | 22, _ => exact Nat.lt_succ_self _
      | 23, _ => exact Nat.lt_succ_self _
      | 24, _ => exact Nat.lt_succ_self _
      | 25, _ => exact Nat.lt_succ_self _
      | 26, _ => exact Nat.lt_succ_self _
      | 27, _ => exact Nat.lt_succ_self _
      | k + 28, h => exact absurd h (by omega)
    · rw [had]
      match t, ht with
      | 0, _ => rfl
      | 1, _ => rfl
      | 2, _ => rfl
      | 3, _ => rfl
      | 4, _ => rfl
      | 5, _ => rfl
      | 6, _ => rfl
      | 7, _ => rfl
      | 8, _ => rfl
      | 9, _ => rfl
      | 10, _ => rfl
      | 11, _ => rfl
      | 12, _ => rfl
      | 13, _ => rfl
      | 14, _ => rfl
      | 15, _ => rfl
      | 16, _ => rfl
      | 17, _ => rfl
      | 18, _ => rfl
      | 19, _ => rfl
      | 20, _ => rfl
      | 21, _ => rfl
      | 22, _ => rfl
      | 23, _ => rfl
      | 24, _ => rfl
      | 25, _ => rfl
      | 26, _ => rfl
      | 27, _ => rfl
      | 28, _ => rfl
      | t + 29, h => exact absurd h (by omega)
  obtain ⟨M, hM0⟩ : ∃ M : Nat → Nat → Int32, M = fun _ _ => 0 := ⟨_, rfl⟩
  have e28 : h0 = am 28 := by rw [had]; rfl
  have hM : MWd cs am (M, (0, 0, 0, (-1), 0, 0), 0, 0) u61 := by
    refine ⟨hai, by rw [had]; exact f_h0, fun k hk => ?_⟩
    rw [hM0]
    rcases hk with hk | hk
    · rw [had]
      match k, hk with
      | 0, _ => exact f_q1
      | 1, _ => exact f_q4
      | 2, _ => exact f_q7
      | 3, _ => exact f_q10
      | 4, _ => exact f_q13
      | 5, _ => exact f_q16
      | 6, _ => exact f_q19
      | 7, _ => exact f_q22
      | 8, _ => exact f_q25
      | 9, _ => exact f_q28
      | 10, _ => exact f_q31
      | 11, _ => exact f_q34
      | 12, _ => exact f_q37
      | 13, _ => exact f_q40
      | 14, _ => exact f_q43
      | 15, _ => exact f_q46
      | 16, _ => exact f_q49
      | 17, _ => exact f_q52
      | 18, _ => exact f_q55
      | k + 19, h => exact absurd h (by omega)
    · subst hk; rw [had]; exact f_q59
  have hl : lv_has ls 2 [(0, .ref (am 28))] := by rw [← e28]; exact hl
  clear hai had hzz f_q1 f_q4 f_q7 f_q10 f_q13 f_q16 f_q19 f_q22 f_q25 f_q28 f_q31 f_q34 f_q37 f_q40 f_q43 f_q46 f_q49 f_q52 f_q55 f_q59 f_h0
  refine lv_iconst (v := 0) hx hb dX9_init_160 (by decide) ?_
  refine lv_istore_n (lv' := [(1, .int 0), (0, .ref (am 28))]) hx hb dX9_init_161 rfl hl (by decide) rfl (fun ls hl => ?_)
  refine lv_iload_n hx hb dX9_init_162 rfl (lv_at hl 0 rfl) ?_
  refine lv_iconst (v := 4) hx hb dX9_init_163 (by decide) ?_
  refine lv_icmp_ge (tgt := 194) hx hb dX9_init_164 (by decide) (fun h => absurd h (by decide)) (fun _ => ?_)
  refine lv_aload_n hx hb dX9_init_167 rfl (lv_at hl 1 rfl) ?_
  refine fw_get (v := .ref (am 8)) X gC_ok hF hM.2.1 rfl 8 (by decide) wm_487 rfl dX9_init_168 ?_
  refine lv_iload_n hx hb dX9_init_171 rfl (lv_at hl 0 rfl) ?_
  refine lv_iconst (v := (-1)) hx hb dX9_init_172 (by decide) ?_
  refine fw_iast X hF hS (hM.2.2 8 (Or.inl (by decide))) 0 rfl (vp_in_iff.mpr (by decide)) dX9_init_173 (fun H locs hF hS => ?_)
  obtain ⟨u64, hu64⟩ : ∃ y : fW, y = va_up u61 (am 8) (some (.inl (cs 0, 4, .inl (upd (M 8) 0 (-1))))) := ⟨_, rfl⟩
  have hM := hM.set 8 (Or.inl (by decide)) (upd (M 8) 0 (-1))
  have hF : fw_P D cls10 A u64 H := by rw [hu64]; exact hF
  have hM : MWd cs am (va_up M 8 (upd (M 8) 0 (-1)), (0, 0, 0, (-1), 0, 0), 0, 0) u64 := by rw [hu64]; exact hM
  refine lv_aload_n hx hb dX9_init_174 rfl (lv_at hl 1 rfl) ?_
  refine fw_get (v := .ref (am 10)) X gC_ok hF hM.2.1 rfl 10 (by decide) wm_489 rfl dX9_init_175 ?_
  refine lv_iload_n hx hb dX9_init_178 rfl (lv_at hl 0 rfl) ?_
  refine lv_iconst (v := (-1)) hx hb dX9_init_179 (by decide) ?_
  refine fw_iast X hF hS (hM.2.2 10 (Or.inl (by decide))) 0 rfl (vp_in_iff.mpr (by decide)) dX9_init_180 (fun H locs hF hS => ?_)
  obtain ⟨u65, hu65⟩ : ∃ y : fW, y = va_up u64 (am 10) (some (.inl (cs 0, 4, .inl (upd (M 10) 0 (-1))))) := ⟨_, rfl⟩
  have hM := hM.set 10 (Or.inl (by decide)) (upd (M 10) 0 (-1))
  have hF : fw_P D cls10 A u65 H := by rw [hu65]; exact hF
  have hM : MWd cs am (va_up (va_up M 8 (upd (M 8) 0 (-1))) 10 (upd (M 10) 0 (-1)), (0, 0, 0, (-1), 0, 0), 0, 0) u65 := by rw [hu65]; exact hM
  refine lv_aload_n hx hb dX9_init_181 rfl (lv_at hl 1 rfl) ?_
  refine fw_get (v := .ref (am 13)) X gC_ok hF hM.2.1 rfl 13 (by decide) wm_492 rfl dX9_init_182 ?_
  refine lv_iload_n hx hb dX9_init_185 rfl (lv_at hl 0 rfl) ?_
  refine lv_iconst (v := (-1)) hx hb dX9_init_186 (by decide) ?_
  refine fw_iast X hF hS (hM.2.2 13 (Or.inl (by decide))) 0 rfl (vp_in_iff.mpr (by decide)) dX9_init_187 (fun H locs hF hS => ?_)
  obtain ⟨u66, hu66⟩ : ∃ y : fW, y = va_up u65 (am 13) (some (.inl (cs 0, 4, .inl (upd (M 13) 0 (-1))))) := ⟨_, rfl⟩
  have hM := hM.set 13 (Or.inl (by decide)) (upd (M 13) 0 (-1))
  have hF : fw_P D cls10 A u66 H := by rw [hu66]; exact hF
  have hM : MWd cs am (va_up (va_up (va_up M 8 (upd (M 8) 0 (-1))) 10 (upd (M 10) 0 (-1))) 13 (upd (M 13) 0 (-1)), (0, 0, 0, (-1), 0, 0), 0, 0) u66 := by rw [hu66]; exact hM
  refine lv_iinc (v := 1) (lv' := [(1, .int 1), (0, .ref (am 28))]) hx hb dX9_init_188 hl (k := 0) rfl (by decide) (by decide) rfl (fun ls hl => ?_)
  refine lv_goto (tgt := 162) hx hb dX9_init_191 (by decide) ?_
  refine lv_iload_n hx hb dX9_init_162 rfl (lv_at hl 0 rfl) ?_
  refine lv_iconst (v := 4) hx hb dX9_init_163 (by decide) ?_
  refine lv_icmp_ge (tgt := 194) hx hb dX9_init_164 (by decide) (fun h => absurd h (by decide)) (fun _ => ?_)
  refine lv_aload_n hx hb dX9_init_167 rfl (lv_at hl 1 rfl) ?_
  refine fw_get (v := .ref (am 8)) X gC_ok hF hM.2.1 rfl 8 (by decide) wm_487 rfl dX9_init_168 ?_
  refine lv_iload_n hx hb dX9_init_171 rfl (lv_at hl 0 rfl) ?_
  refine lv_iconst (v := (-1)) hx hb dX9_init_172 (by decide) ?_
  refine fw_iast X hF hS (hM.2.2 8 (Or.inl (by decide))) 0 rfl (vp_in_iff.mpr (by decide)) dX9_init_173 (fun H locs hF hS => ?_)
  obtain ⟨u68, hu68⟩ : ∃ y : fW, y = va_up u66 (am 8) (some (.inl (cs 0, 4, .inl (upd (upd (M 8) 0 (-1)) 1 (-1))))) := ⟨_, rfl⟩
  have hM := hM.set 8 (Or.inl (by decide)) (upd (upd (M 8) 0 (-1)) 1 (-1))
  have hF : fw_P D cls10 A u68 H := by rw [hu68]; exact hF
  have hM : MWd cs am (va_up (va_up (va_up (va_up M 8 (upd (M 8) 0 (-1))) 10 (upd (M 10) 0 (-1))) 13 (upd (M 13) 0 (-1))) 8 (upd (upd (M 8) 0 (-1)) 1 (-1)), (0, 0, 0, (-1), 0, 0), 0, 0) u68 := by rw [hu68]; exact hM
  refine lv_aload_n hx hb dX9_init_174 rfl (lv_at hl 1 rfl) ?_
  refine fw_get (v := .ref (am 10)) X gC_ok hF hM.2.1 rfl 10 (by decide) wm_489 rfl dX9_init_175 ?_
  refine lv_iload_n hx hb dX9_init_178 rfl (lv_at hl 0 rfl) ?_
  refine lv_iconst (v := (-1)) hx hb dX9_init_179 (by decide) ?_
  refine fw_iast X hF hS (hM.2.2 10 (Or.inl (by decide))) 0 rfl (vp_in_iff.mpr (by decide)) dX9_init_180 (fun H locs hF hS => ?_)
  obtain ⟨u69, hu69⟩ : ∃ y : fW, y = va_up u68 (am 10) (some (.inl (cs 0, 4, .inl (upd (upd (M 10) 0 (-1)) 1 (-1))))) := ⟨_, rfl⟩
  have hM := hM.set 10 (Or.inl (by decide)) (upd (upd (M 10) 0 (-1)) 1 (-1))
  have hF : fw_P D cls10 A u69 H := by rw [hu69]; exact hF
  have hM : MWd cs am (va_up (va_up (va_up (va_up (va_up M 8 (upd (M 8) 0 (-1))) 10 (upd (M 10) 0 (-1))) 13 (upd (M 13) 0 (-1))) 8 (upd (upd (M 8) 0 (-1)) 1 (-1))) 10 (upd (upd (M 10) 0 (-1)) 1 (-1)), (0, 0, 0, (-1), 0, 0), 0, 0) u69 := by rw [hu69]; exact hM
  refine lv_aload_n hx hb dX9_init_181 rfl (lv_at hl 1 rfl) ?_
  refine fw_get (v := .ref (am 13)) X gC_ok hF hM.2.1 rfl 13 (by decide) wm_492 rfl dX9_init_182 ?_
  refine lv_iload_n hx hb dX9_init_185 rfl (lv_at hl 0 rfl) ?_
  refine lv_iconst (v := (-1)) hx hb dX9_init_186 (by decide) ?_
  refine fw_iast X hF hS (hM.2.2 13 (Or.inl (by decide))) 0 rfl (vp_in_iff.mpr (by decide)) dX9_init_187 (fun H locs hF hS => ?_)
  obtain ⟨u70, hu70⟩ : ∃ y : fW, y = va_up u69 (am 13) (some (.inl (cs 0, 4, .inl (upd (upd (M 13) 0 (-1)) 1 (-1))))) := ⟨_, rfl⟩
  have hM := hM.set 13 (Or.inl (by decide)) (upd (upd (M 13) 0 (-1)) 1 (-1))
  have hF : fw_P D cls10 A u70 H := by rw [hu70]; exact hF
  have hM : MWd cs am (va_up (va_up (va_up (va_up (va_up (va_up M 8 (upd (M 8) 0 (-1))) 10 (upd (M 10) 0 (-1))) 13 (upd (M 13) 0 (-1))) 8 (upd (upd (M 8) 0 (-1)) 1 (-1))) 10 (upd (upd (M 10) 0 (-1)) 1 (-1))) 13 (upd (upd (M 13) 0 (-1)) 1 (-1)), (0, 0, 0, (-1), 0, 0), 0, 0) u70 := by rw [hu70]; exact hM
  refine lv_iinc (v := 2) (lv' := [(1, .int 2), (0, .ref (am 28))]) hx hb dX9_init_188 hl (k := 0) rfl (by decide) (by decide) rfl (fun ls hl => ?_)
  refine lv_goto (tgt := 162) hx hb dX9_init_191 (by decide) ?_
  refine lv_iload_n hx hb dX9_init_162 rfl (lv_at hl 0 rfl) ?_
  refine lv_iconst (v := 4) hx hb dX9_init_163 (by decide) ?_
  refine lv_icmp_ge (tgt := 194) hx hb dX9_init_164 (by decide) (fun h => absurd h (by decide)) (fun _ => ?_)
  refine lv_aload_n hx hb dX9_init_167 rfl (lv_at hl 1 rfl) ?_
  refine fw_get (v := .ref (am 8)) X gC_ok hF hM.2.1 rfl 8 (by decide) wm_487 rfl dX9_init_168 ?_
  refine lv_iload_n hx hb dX9_init_171 rfl (lv_at hl 0 rfl) ?_
  refine lv_iconst (v := (-1)) hx hb dX9_init_172 (by decide) ?_
  refine fw_iast X hF hS (hM.2.2 8 (Or.inl (by decide))) 0 rfl (vp_in_iff.mpr (by decide)) dX9_init_173 (fun H locs hF hS => ?_)
  obtain ⟨u72, hu72⟩ : ∃ y : fW, y = va_up u70 (am 8) (some (.inl (cs 0, 4, .inl (upd (upd (upd (M 8) 0 (-1)) 1 (-1)) 2 (-1))))) := ⟨_, rfl⟩
  have hM := hM.set 8 (Or.inl (by decide)) (upd (upd (upd (M 8) 0 (-1)) 1 (-1)) 2 (-1))
  have hF : fw_P D cls10 A u72 H := by rw [hu72]; exact hF
  have hM : MWd cs am (va_up (va_up (va_up (va_up (va_up (va_up (va_up M 8 (upd (M 8) 0 (-1))) 10 (upd (M 10) 0 (-1))) 13 (upd (M 13) 0 (-1))) 8 (upd (upd (M 8) 0 (-1)) 1 (-1))) 10 (upd (upd (M 10) 0 (-1)) 1 (-1))) 13 (upd (upd (M 13) 0 (-1)) 1 (-1))) 8 (upd (upd (upd (M 8) 0 (-1)) 1 (-1)) 2 (-1)), (0, 0, 0, (-1), 0, 0), 0, 0) u72 := by rw [hu72]; exact hM
  refine lv_aload_n hx hb dX9_init_174 rfl (lv_at hl 1 rfl) ?_
  refine fw_get (v := .ref (am 10)) X gC_ok hF hM.2.1 rfl 10 (by decide) wm_489 rfl dX9_init_175 ?_
  refine lv_iload_n hx hb dX9_init_178 rfl (lv_at hl 0 rfl) ?_
  refine lv_iconst (v := (-1)) hx hb dX9_init_179 (by decide) ?_
  refine fw_iast X hF hS (hM.2.2 10 (Or.inl (by decide))) 0 rfl (vp_in_iff.mpr (by decide)) dX9_init_180 (fun H locs hF hS => ?_)
  obtain ⟨u73, hu73⟩ : ∃ y : fW, y = va_up u72 (am 10) (some (.inl (cs 0, 4, .inl (upd (upd (upd (M 10) 0 (-1)) 1 (-1)) 2 (-1))))) := ⟨_, rfl⟩
  have hM := hM.set 10 (Or.inl (by decide)) (upd (upd (upd (M 10) 0 (-1)) 1 (-1)) 2 (-1))
  have hF : fw_P D cls10 A u73 H := by rw [hu73]; exact hF
  have hM : MWd cs am (va_up (va_up (va_up (va_up (va_up (va_up (va_up (va_up M 8 (upd (M 8) 0 (-1))) 10 (upd (M 10) 0 (-1))) 13 (upd (M 13) 0 (-1))) 8 (upd (upd (M 8) 0 (-1)) 1 (-1))) 10 (upd (upd (M 10) 0 (-1)) 1 (-1))) 13 (upd (upd (M 13) 0 (-1)) 1 (-1))) 8 (upd (upd (upd (M 8) 0 (-1)) 1 (-1)) 2 (-1))) 10 (upd (upd (upd (M 10) 0 (-1)) 1 (-1)) 2 (-1)), (0, 0, 0, (-1), 0, 0), 0, 0) u73 := by rw [hu73]; exact hM
  refine lv_aload_n hx hb dX9_init_181 rfl (lv_at hl 1 rfl) ?_
  refine fw_get (v := .ref (am 13)) X gC_ok hF hM.2.1 rfl 13 (by decide) wm_492 rfl dX9_init_182 ?_
  refine lv_iload_n hx hb dX9_init_185 rfl (lv_at hl 0 rfl) ?_
  refine lv_iconst (v := (-1)) hx hb dX9_init_186 (by decide) ?_
  refine fw_iast X hF hS (hM.2.2 13 (Or.inl (by decide))) 0 rfl (vp_in_iff.mpr (by decide)) dX9_init_187 (fun H locs hF hS => ?_)
  obtain ⟨u74, hu74⟩ : ∃ y : fW, y = va_up u73 (am 13) (some (.inl (cs 0, 4, .inl (upd (upd (upd (M 13) 0 (-1)) 1 (-1)) 2 (-1))))) := ⟨_, rfl⟩
  have hM := hM.set 13 (Or.inl (by decide)) (upd (upd (upd (M 13) 0 (-1)) 1 (-1)) 2 (-1))
  have hF : fw_P D cls10 A u74 H := by rw [hu74]; exact hF
  have hM : MWd cs am (va_up (va_up (va_up (va_up (va_up (va_up (va_up (va_up (va_up M 8 (upd (M 8) 0 (-1))) 10 (upd (M 10) 0 (-1))) 13 (upd (M 13) 0 (-1))) 8 (upd (upd (M 8) 0 (-1)) 1 (-1))) 10 (upd (upd (M 10) 0 (-1)) 1 (-1))) 13 (upd (upd (M 13) 0 (-1)) 1 (-1))) 8 (upd (upd (upd (M 8) 0 (-1)) 1 (-1)) 2 (-1))) 10 (upd (upd (upd (M 10) 0 (-1)) 1 (-1)) 2 (-1))) 13 (upd (upd (upd (M 13) 0 (-1)) 1 (-1)) 2 (-1)), (0, 0, 0, (-1), 0, 0), 0, 0) u74 := by rw [hu74]; exact hM
  refine lv_iinc (v := 3) (lv' := [(1, .int 3), (0, .ref (am 28))]) hx hb dX9_init_188 hl (k := 0) rfl (by decide) (by decide) rfl (fun ls hl => ?_)
  refine lv_goto (tgt := 162) hx hb dX9_init_191 (by decide) ?_
  refine lv_iload_n hx hb dX9_init_162 rfl (lv_at hl 0 rfl) ?_
  refine lv_iconst (v := 4) hx hb dX9_init_163 (by decide) ?_
  refine lv_icmp_ge (tgt := 194) hx hb dX9_init_164 (by decide) (fun h => absurd h (by decide)) (fun _ => ?_)
  refine lv_aload_n hx hb dX9_init_167 rfl (lv_at hl 1 rfl) ?_
  refine fw_get (v := .ref (am 8)) X gC_ok hF hM.2.1 rfl 8 (by decide) wm_487 rfl dX9_init_168 ?_
  refine lv_iload_n hx hb dX9_init_171 rfl (lv_at hl 0 rfl) ?_
  refine lv_iconst (v := (-1)) hx hb dX9_init_172 (by decide) ?_
  refine fw_iast X hF hS (hM.2.2 8 (Or.inl (by decide))) 0 rfl (vp_in_iff.mpr (by decide)) dX9_init_173 (fun H locs hF hS => ?_)
  obtain ⟨u76, hu76⟩ : ∃ y : fW, y = va_up u74 (am 8) (some (.inl (cs 0, 4, .inl (upd (upd (upd (upd (M 8) 0 (-1)) 1 (-1)) 2 (-1)) 3 (-1))))) := ⟨_, rfl⟩
  have hM := hM.set 8 (Or.inl (by decide)) (upd (upd (upd (upd (M 8) 0 (-1)) 1 (-1)) 2 (-1)) 3 (-1))
  have hF : fw_P D cls10 A u76 H := by rw [hu76]; exact hF
  have hM : MWd cs am (va_up (va_up (va_up (va_up (va_up (va_up (va_up (va_up (va_up (va_up M 8 (upd (M 8) 0 (-1))) 10 (upd (M 10) 0 (-1))) 13 (upd (M 13) 0 (-1))) 8 (upd (upd (M 8) 0 (-1)) 1 (-1))) 10 (upd (upd (M 10) 0 (-1)) 1 (-1))) 13 (upd (upd (M 13) 0 (-1)) 1 (-1))) 8 (upd (upd (upd (M 8) 0 (-1)) 1 (-1)) 2 (-1))) 10 (upd (upd (upd (M 10) 0 (-1)) 1 (-1)) 2 (-1))) 13 (upd (upd (upd (M 13) 0 (-1)) 1 (-1)) 2 (-1))) 8 (upd (upd (upd (upd (M 8) 0 (-1)) 1 (-1)) 2 (-1)) 3 (-1)), (0, 0, 0, (-1), 0, 0), 0, 0) u76 := by rw [hu76]; exact hM
  refine lv_aload_n hx hb dX9_init_174 rfl (lv_at hl 1 rfl) ?_
  refine fw_get (v := .ref (am 10)) X gC_ok hF hM.2.1 rfl 10 (by decide) wm_489 rfl dX9_init_175 ?_
  refine lv_iload_n hx hb dX9_init_178 rfl (lv_at hl 0 rfl) ?_
  refine lv_iconst (v := (-1)) hx hb dX9_init_179 (by decide) ?_
  refine fw_iast X hF hS (hM.2.2 10 (Or.inl (by decide))) 0 rfl (vp_in_iff.mpr (by decide)) dX9_init_180 (fun H locs hF hS => ?_)
  obtain ⟨u77, hu77⟩ : ∃ y : fW, y = va_up u76 (am 10) (some (.inl (cs 0, 4, .inl (upd (upd (upd (upd (M 10) 0 (-1)) 1 (-1)) 2 (-1)) 3 (-1))))) := ⟨_, rfl⟩
  have hM := hM.set 10 (Or.inl (by decide)) (upd (upd (upd (upd (M 10) 0 (-1)) 1 (-1)) 2 (-1)) 3 (-1))
  have hF : fw_P D cls10 A u77 H := by rw [hu77]; exact hF
  have hM : MWd cs am (va_up (va_up (va_up (va_up (va_up (va_up (va_up (va_up (va_up (va_up (va_up M 8 (upd (M 8) 0 (-1))) 10 (upd (M 10) 0 (-1))) 13 (upd (M 13) 0 (-1))) 8 (upd (upd (M 8) 0 (-1)) 1 (-1))) 10 (upd (upd (M 10) 0 (-1)) 1 (-1))) 13 (upd (upd (M 13) 0 (-1)) 1 (-1))) 8 (upd (upd (upd (M 8) 0 (-1)) 1 (-1)) 2 (-1))) 10 (upd (upd (upd (M 10) 0 (-1)) 1 (-1)) 2 (-1))) 13 (upd (upd (upd (M 13) 0 (-1)) 1 (-1)) 2 (-1))) 8 (upd (upd (upd (upd (M 8) 0 (-1)) 1 (-1)) 2 (-1)) 3 (-1))) 10 (upd (upd (upd (upd (M 10) 0 (-1)) 1 (-1)) 2 (-1)) 3 (-1)), (0, 0, 0, (-1), 0, 0), 0, 0) u77 := by rw [hu77]; exact hM
  refine lv_aload_n hx hb dX9_init_181 rfl (lv_at hl 1 rfl) ?_
  refine fw_get (v := .ref (am 13)) X gC_ok hF hM.2.1 rfl 13 (by decide) wm_492 rfl dX9_init_182 ?_
  refine lv_iload_n hx hb dX9_init_185 rfl (lv_at hl 0 rfl) ?_
  refine lv_iconst (v := (-1)) hx hb dX9_init_186 (by decide) ?_
  refine fw_iast X hF hS (hM.2.2 13 (Or.inl (by decide))) 0 rfl (vp_in_iff.mpr (by decide)) dX9_init_187 (fun H locs hF hS => ?_)
  obtain ⟨u78, hu78⟩ : ∃ y : fW, y = va_up u77 (am 13) (some (.inl (cs 0, 4, .inl (upd (upd (upd (upd (M 13) 0 (-1)) 1 (-1)) 2 (-1)) 3 (-1))))) := ⟨_, rfl⟩
  have hM := hM.set 13 (Or.inl (by decide)) (upd (upd (upd (upd (M 13) 0 (-1)) 1 (-1)) 2 (-1)) 3 (-1))
  have hF : fw_P D cls10 A u78 H := by rw [hu78]; exact hF
  have hM : MWd cs am (va_up (va_up (va_up (va_up (va_up (va_up (va_up (va_up (va_up (va_up (va_up (va_up M 8 (upd (M 8) 0 (-1))) 10 (upd (M 10) 0 (-1))) 13 (upd (M 13) 0 (-1))) 8 (upd (upd (M 8) 0 (-1)) 1 (-1))) 10 (upd (upd (M 10) 0 (-1)) 1 (-1))) 13 (upd (upd (M 13) 0 (-1)) 1 (-1))) 8 (upd (upd (upd (M 8) 0 (-1)) 1 (-1)) 2 (-1))) 10 (upd (upd (upd (M 10) 0 (-1)) 1 (-1)) 2 (-1))) 13 (upd (upd (upd (M 13) 0 (-1)) 1 (-1)) 2 (-1))) 8 (upd (upd (upd (upd (M 8) 0 (-1)) 1 (-1)) 2 (-1)) 3 (-1))) 10 (upd (upd (upd (upd (M 10) 0 (-1)) 1 (-1)) 2 (-1)) 3 (-1))) 13 (upd (upd (upd (upd (M 13) 0 (-1)) 1 (-1)) 2 (-1)) 3 (-1)), (0, 0, 0, (-1), 0, 0), 0, 0) u78 := by rw [hu78]; exact hM
  refine lv_iinc (v := 4) (lv' := [(1, .int 4), (0, .ref (am 28))]) hx hb dX9_init_188 hl (k := 0) rfl (by decide) (by decide) rfl (fun ls hl => ?_)
  refine lv_goto (tgt := 162) hx hb dX9_init_191 (by decide) ?_
  refine lv_iload_n hx hb dX9_init_162 rfl (lv_at hl 0 rfl) ?_
  refine lv_iconst (v := 4) hx hb dX9_init_163 (by decide) ?_
  refine lv_icmp_ge (tgt := 194) hx hb dX9_init_164 (by decide) (fun _ => ?_) (fun h => absurd h (by decide))
  refine lv_iconst (v := 0) hx hb dX9_init_194 (by decide) ?_
  refine lv_istore_n (lv' := [(1, .int 0), (0, .ref (am 28))]) hx hb dX9_init_195 rfl hl (by decide) rfl (fun ls hl => ?_)
  refine lv_iload_n hx hb dX9_init_196 rfl (lv_at hl 0 rfl) ?_
  refine lv_bipush (v := 8) hx hb dX9_init_197 (by decide) ?_
  refine lv_icmp_ge (tgt := 215) hx hb dX9_init_199 (by decide) (fun h => absurd h (by decide)) (fun _ => ?_)
  refine lv_aload_n hx hb dX9_init_202 rfl (lv_at hl 1 rfl) ?_
  refine fw_get (v := .ref (am 2)) X gC_ok hF hM.2.1 rfl 2 (by decide) wm_481 rfl dX9_init_203 ?_
  refine lv_iload_n hx hb dX9_init_206 rfl (lv_at hl 0 rfl) ?_
  refine lv_iconst (v := (-1)) hx hb dX9_init_207 (by decide) ?_
  refine fw_iast X hF hS (hM.2.2 2 (Or.inl (by decide))) 0 rfl (vp_in_iff.mpr (by decide)) dX9_init_208 (fun H locs hF hS => ?_)
  obtain ⟨u81, hu81⟩ : ∃ y : fW, y = va_up u78 (am 2) (some (.inl (cs 0, 8, .inl (upd (M 2) 0 (-1))))) := ⟨_, rfl⟩
  have hM := hM.set 2 (Or.inl (by decide)) (upd (M 2) 0 (-1))
  have hF : fw_P D cls10 A u81 H := by rw [hu81]; exact hF
  have hM : MWd cs am (va_up (va_up (va_up (va_up (va_up (va_up (va_up (va_up (va_up (va_up (va_up (va_up (va_up M 8 (upd (M 8) 0 (-1))) 10 (upd (M 10) 0 (-1))) 13 (upd (M 13) 0 (-1))) 8 (upd (upd (M 8) 0 (-1)) 1 (-1))) 10 (upd (upd (M 10) 0 (-1)) 1 (-1))) 13 (upd (upd (M 13) 0 (-1)) 1 (-1))) 8 (upd (upd (upd (M 8) 0 (-1)) 1 (-1)) 2 (-1))) 10 (upd (upd (upd (M 10) 0 (-1)) 1 (-1)) 2 (-1))) 13 (upd (upd (upd (M 13) 0 (-1)) 1 (-1)) 2 (-1))) 8 (upd (upd (upd (upd (M 8) 0 (-1)) 1 (-1)) 2 (-1)) 3 (-1))) 10 (upd (upd (upd (upd (M 10) 0 (-1)) 1 (-1)) 2 (-1)) 3 (-1))) 13 (upd (upd (upd (upd (M 13) 0 (-1)) 1 (-1)) 2 (-1)) 3 (-1))) 2 (upd (M 2) 0 (-1)), (0, 0, 0, (-1), 0, 0), 0, 0) u81 := by rw [hu81]; exact hM
  refine lv_iinc (v := 1) (lv' := [(1, .int 1), (0, .ref (am 28))]) hx hb dX9_init_209 hl (k := 0) rfl (by decide) (by decide) rfl (fun ls hl => ?_)
  refine lv_goto (tgt := 196) hx hb dX9_init_212 (by decide) ?_
  refine lv_iload_n hx hb dX9_init_196 rfl (lv_at hl 0 rfl) ?_
  refine lv_bipush (v := 8) hx hb dX9_init_197 (by decide) ?_
  refine lv_icmp_ge (tgt := 215) hx hb dX9_init_199 (by decide) (fun h => absurd h (by decide)) (fun _ => ?_)
  refine lv_aload_n hx hb dX9_init_202 rfl (lv_at hl 1 rfl) ?_
  refine fw_get (v := .ref (am 2)) X gC_ok hF hM.2.1 rfl 2 (by decide) wm_481 rfl dX9_init_203 ?_
  refine lv_iload_n hx hb dX9_init_206 rfl (lv_at hl 0 rfl) ?_
  refine lv_iconst (v := (-1)) hx hb dX9_init_207 (by decide) ?_
  refine fw_iast X hF hS (hM.2.2 2 (Or.inl (by decide))) 0 rfl (vp_in_iff.mpr (by decide)) dX9_init_208 (fun H locs hF hS => ?_)
  obtain ⟨u83, hu83⟩ : ∃ y : fW, y = va_up u81 (am 2) (some (.inl (cs 0, 8, .inl (upd (upd (M 2) 0 (-1)) 1 (-1))))) := ⟨_, rfl⟩
  have hM := hM.set 2 (Or.inl (by decide)) (upd (upd (M 2) 0 (-1)) 1 (-1))
  rw [uu] at hM
  have hF : fw_P D cls10 A u83 H := by rw [hu83]; exact hF
  have hM : MWd cs am (va_up (va_up (va_up (va_up (va_up (va_up (va_up (va_up (va_up (va_up (va_up (va_up (va_up M 8 (upd (M 8) 0 (-1))) 10 (upd (M 10) 0 (-1))) 13 (upd (M 13) 0 (-1))) 8 (upd (upd (M 8) 0 (-1)) 1 (-1))) 10 (upd (upd (M 10) 0 (-1)) 1 (-1))) 13 (upd (upd (M 13) 0 (-1)) 1 (-1))) 8 (upd (upd (upd (M 8) 0 (-1)) 1 (-1)) 2 (-1))) 10 (upd (upd (upd (M 10) 0 (-1)) 1 (-1)) 2 (-1))) 13 (upd (upd (upd (M 13) 0 (-1)) 1 (-1)) 2 (-1))) 8 (upd (upd (upd (upd (M 8) 0 (-1)) 1 (-1)) 2 (-1)) 3 (-1))) 10 (upd (upd (upd (upd (M 10) 0 (-1)) 1 (-1)) 2 (-1)) 3 (-1))) 13 (upd (upd (upd (upd (M 13) 0 (-1)) 1 (-1)) 2 (-1)) 3 (-1))) 2 (upd (upd (M 2) 0 (-1)) 1 (-1)), (0, 0, 0, (-1), 0, 0), 0, 0) u83 := by rw [hu83]; exact hM
  refine lv_iinc (v := 2) (lv' := [(1, .int 2), (0, .ref (am 28))]) hx hb dX9_init_209 hl (k := 0) rfl (by decide) (by decide) rfl (fun ls hl => ?_)
  refine lv_goto (tgt := 196) hx hb dX9_init_212 (by decide) ?_
  refine lv_iload_n hx hb dX9_init_196 rfl (lv_at hl 0 rfl) ?_
  refine lv_bipush (v := 8) hx hb dX9_init_197 (by decide) ?_
  refine lv_icmp_ge (tgt := 215) hx hb dX9_init_199 (by decide) (fun h => absurd h (by decide)) (fun _ => ?_)
  refine lv_aload_n hx hb dX9_init_202 rfl (lv_at hl 1 rfl) ?_
  refine fw_get (v := .ref (am 2)) X gC_ok hF hM.2.1 rfl 2 (by decide) wm_481 rfl dX9_init_203 ?_
  refine lv_iload_n hx hb dX9_init_206 rfl (lv_at hl 0 rfl) ?_
  refine lv_iconst (v := (-1)) hx hb dX9_init_207 (by decide) ?_
  refine fw_iast X hF hS (hM.2.2 2 (Or.inl (by decide))) 0 rfl (vp_in_iff.mpr (by decide)) dX9_init_208 (fun H locs hF hS => ?_)
  obtain ⟨u85, hu85⟩ : ∃ y : fW, y = va_up u83 (am 2) (some (.inl (cs 0, 8, .inl (upd (upd (upd (M 2) 0 (-1)) 1 (-1)) 2 (-1))))) := ⟨_, rfl⟩
  have hM := hM.set 2 (Or.inl (by decide)) (upd (upd (upd (M 2) 0 (-1)) 1 (-1)) 2 (-1))
  rw [uu] at hM
  have hF : fw_P D cls10 A u85 H := by rw [hu85]; exact hF
  have hM : MWd cs am (va_up (va_up (va_up (va_up (va_up (va_up (va_up (va_up (va_up (va_up (va_up (va_up (va_up M 8 (upd (M 8) 0 (-1))) 10 (upd (M 10) 0 (-1))) 13 (upd (M 13) 0 (-1))) 8 (upd (upd (M 8) 0 (-1)) 1 (-1))) 10 (upd (upd (M 10) 0 (-1)) 1 (-1))) 13 (upd (upd (M 13) 0 (-1)) 1 (-1))) 8 (upd (upd (upd (M 8) 0 (-1)) 1 (-1)) 2 (-1))) 10 (upd (upd (upd (M 10) 0 (-1)) 1 (-1)) 2 (-1))) 13 (upd (upd (upd (M 13) 0 (-1)) 1 (-1)) 2 (-1))) 8 (upd (upd (upd (upd (M 8) 0 (-1)) 1 (-1)) 2 (-1)) 3 (-1))) 10 (upd (upd (upd (upd (M 10) 0 (-1)) 1 (-1)) 2 (-1)) 3 (-1))) 13 (upd (upd (upd (upd (M 13) 0 (-1)) 1 (-1)) 2 (-1)) 3 (-1))) 2 (upd (upd (upd (M 2) 0 (-1)) 1 (-1)) 2 (-1)), (0, 0, 0, (-1), 0, 0), 0, 0) u85 := by rw [hu85]; exact hM
  refine lv_iinc (v := 3) (lv' := [(1, .int 3), (0, .ref (am 28))]) hx hb dX9_init_209 hl (k := 0) rfl (by decide) (by decide) rfl (fun ls hl => ?_)
  refine lv_goto (tgt := 196) hx hb dX9_init_212 (by decide) ?_
  refine lv_iload_n hx hb dX9_init_196 rfl (lv_at hl 0 rfl) ?_
  refine lv_bipush (v := 8) hx hb dX9_init_197 (by decide) ?_
  refine lv_icmp_ge (tgt := 215) hx hb dX9_init_199 (by decide) (fun h => absurd h (by decide)) (fun _ => ?_)
  refine lv_aload_n hx hb dX9_init_202 rfl (lv_at hl 1 rfl) ?_
  refine fw_get (v := .ref (am 2)) X gC_ok hF hM.2.1 rfl 2 (by decide) wm_481 rfl dX9_init_203 ?_
  refine lv_iload_n hx hb dX9_init_206 rfl (lv_at hl 0 rfl) ?_
  refine lv_iconst (v := (-1)) hx hb dX9_init_207 (by decide) ?_
  refine fw_iast X hF hS (hM.2.2 2 (Or.inl (by decide))) 0 rfl (vp_in_iff.mpr (by decide)) dX9_init_208 (fun H locs hF hS => ?_)
  obtain ⟨u87, hu87⟩ : ∃ y : fW, y = va_up u85 (am 2) (some (.inl (cs 0, 8, .inl (upd (upd (upd (upd (M 2) 0 (-1)) 1 (-1)) 2 (-1)) 3 (-1))))) := ⟨_, rfl⟩
  have hM := hM.set 2 (Or.inl (by decide)) (upd (upd (upd (upd (M 2) 0 (-1)) 1 (-1)) 2 (-1)) 3 (-1))
  rw [uu] at hM
  have hF : fw_P D cls10 A u87 H := by rw [hu87]; exact hF
  have hM : MWd cs am (va_up (va_up (va_up (va_up (va_up (va_up (va_up (va_up (va_up (va_up (va_up (va_up (va_up M 8 (upd (M 8) 0 (-1))) 10 (upd (M 10) 0 (-1))) 13 (upd (M 13) 0 (-1))) 8 (upd (upd (M 8) 0 (-1)) 1 (-1))) 10 (upd (upd (M 10) 0 (-1)) 1 (-1))) 13 (upd (upd (M 13) 0 (-1)) 1 (-1))) 8 (upd (upd (upd (M 8) 0 (-1)) 1 (-1)) 2 (-1))) 10 (upd (upd (upd (M 10) 0 (-1)) 1 (-1)) 2 (-1))) 13 (upd (upd (upd (M 13) 0 (-1)) 1 (-1)) 2 (-1))) 8 (upd (upd (upd (upd (M 8) 0 (-1)) 1 (-1)) 2 (-1)) 3 (-1))) 10 (upd (upd (upd (upd (M 10) 0 (-1)) 1 (-1)) 2 (-1)) 3 (-1))) 13 (upd (upd (upd (upd (M 13) 0 (-1)) 1 (-1)) 2 (-1)) 3 (-1))) 2 (upd (upd (upd (upd (M 2) 0 (-1)) 1 (-1)) 2 (-1)) 3 (-1)), (0, 0, 0, (-1), 0, 0), 0, 0) u87 := by rw [hu87]; exact hM
  refine lv_iinc (v := 4) (lv' := [(1, .int 4), (0, .ref (am 28))]) hx hb dX9_init_209 hl (k := 0) rfl (by decide) (by decide) rfl (fun ls hl => ?_)
  refine lv_goto (tgt := 196) hx hb dX9_init_212 (by decide) ?_
  refine lv_iload_n hx hb dX9_init_196 rfl (lv_at hl 0 rfl) ?_
  refine lv_bipush (v := 8) hx hb dX9_init_197 (by decide) ?_
  refine lv_icmp_ge (tgt := 215) hx hb dX9_init_199 (by decide) (fun h => absurd h (by decide)) (fun _ => ?_)
  refine lv_aload_n hx hb dX9_init_202 rfl (lv_at hl 1 rfl) ?_
  refine fw_get (v := .ref (am 2)) X gC_ok hF hM.2.1 rfl 2 (by decide) wm_481 rfl dX9_init_203 ?_
  refine lv_iload_n hx hb dX9_init_206 rfl (lv_at hl 0 rfl) ?_
  refine lv_iconst (v := (-1)) hx hb dX9_init_207 (by decide) ?_
  refine fw_iast X hF hS (hM.2.2 2 (Or.inl (by decide))) 0 rfl (vp_in_iff.mpr (by decide)) dX9_init_208 (fun H locs hF hS => ?_)
  obtain ⟨u89, hu89⟩ : ∃ y : fW, y = va_up u87 (am 2) (some (.inl (cs 0, 8, .inl (upd (upd (upd (upd (upd (M 2) 0 (-1)) 1 (-1)) 2 (-1)) 3 (-1)) 4 (-1))))) := ⟨_, rfl⟩
  have hM := hM.set 2 (Or.inl (by decide)) (upd (upd (upd (upd (upd (M 2) 0 (-1)) 1 (-1)) 2 (-1)) 3 (-1)) 4 (-1))
  rw [uu] at hM
  have hF : fw_P D cls10 A u89 H := by rw [hu89]; exact hF
  have hM : MWd cs am (va_up (va_up (va_up (va_up (va_up (va_up (va_up (va_up (va_up (va_up (va_up (va_up (va_up M 8 (upd (M 8) 0 (-1))) 10 (upd (M 10) 0 (-1))) 13 (upd (M 13) 0 (-1))) 8 (upd (upd (M 8) 0 (-1)) 1 (-1))) 10 (upd (upd (M 10) 0 (-1)) 1 (-1))) 13 (upd (upd (M 13) 0 (-1)) 1 (-1))) 8 (upd (upd (upd (M 8) 0 (-1)) 1 (-1)) 2 (-1))) 10 (upd (upd (upd (M 10) 0 (-1)) 1 (-1)) 2 (-1))) 13 (upd (upd (upd (M 13) 0 (-1)) 1 (-1)) 2 (-1))) 8 (upd (upd (upd (upd (M 8) 0 (-1)) 1 (-1)) 2 (-1)) 3 (-1))) 10 (upd (upd (upd (upd (M 10) 0 (-1)) 1 (-1)) 2 (-1)) 3 (-1))) 13 (upd (upd (upd (upd (M 13) 0 (-1)) 1 (-1)) 2 (-1)) 3 (-1))) 2 (upd (upd (upd (upd (upd (M 2) 0 (-1)) 1 (-1)) 2 (-1)) 3 (-1)) 4 (-1)), (0, 0, 0, (-1), 0, 0), 0, 0) u89 := by rw [hu89]; exact hM
  refine lv_iinc (v := 5) (lv' := [(1, .int 5), (0, .ref (am 28))]) hx hb dX9_init_209 hl (k := 0) rfl (by decide) (by decide) rfl (fun ls hl => ?_)
  refine lv_goto (tgt := 196) hx hb dX9_init_212 (by decide) ?_
  refine lv_iload_n hx hb dX9_init_196 rfl (lv_at hl 0 rfl) ?_
  refine lv_bipush (v := 8) hx hb dX9_init_197 (by decide) ?_
  refine lv_icmp_ge (tgt := 215) hx hb dX9_init_199 (by decide) (fun h => absurd h (by decide)) (fun _ => ?_)
  refine lv_aload_n hx hb dX9_init_202 rfl (lv_at hl 1 rfl) ?_
  refine fw_get (v := .ref (am 2)) X gC_ok hF hM.2.1 rfl 2 (by decide) wm_481 rfl dX9_init_203 ?_
  refine lv_iload_n hx hb dX9_init_206 rfl (lv_at hl 0 rfl) ?_
  refine lv_iconst (v := (-1)) hx hb dX9_init_207 (by decide) ?_
  refine fw_iast X hF hS (hM.2.2 2 (Or.inl (by decide))) 0 rfl (vp_in_iff.mpr (by decide)) dX9_init_208 (fun H locs hF hS => ?_)
  obtain ⟨u91, hu91⟩ : ∃ y : fW, y = va_up u89 (am 2) (some (.inl (cs 0, 8, .inl (upd (upd (upd (upd (upd (upd (M 2) 0 (-1)) 1 (-1)) 2 (-1)) 3 (-1)) 4 (-1)) 5 (-1))))) := ⟨_, rfl⟩
  have hM := hM.set 2 (Or.inl (by decide)) (upd (upd (upd (upd (upd (upd (M 2) 0 (-1)) 1 (-1)) 2 (-1)) 3 (-1)) 4 (-1)) 5 (-1))
  rw [uu] at hM
  have hF : fw_P D cls10 A u91 H := by rw [hu91]; exact hF
  have hM : MWd cs am (va_up (va_up (va_up (va_up (va_up (va_up (va_up (va_up (va_up (va_up (va_up (va_up (va_up M 8 (upd (M 8) 0 (-1))) 10 (upd (M 10) 0 (-1))) 13 (upd (M 13) 0 (-1))) 8 (upd (upd (M 8) 0 (-1)) 1 (-1))) 10 (upd (upd (M 10) 0 (-1)) 1 (-1))) 13 (upd (upd (M 13) 0 (-1)) 1 (-1))) 8 (upd (upd (upd (M 8) 0 (-1)) 1 (-1)) 2 (-1))) 10 (upd (upd (upd (M 10) 0 (-1)) 1 (-1)) 2 (-1))) 13 (upd (upd (upd (M 13) 0 (-1)) 1 (-1)) 2 (-1))) 8 (upd (upd (upd (upd (M 8) 0 (-1)) 1 (-1)) 2 (-1)) 3 (-1))) 10 (upd (upd (upd (upd (M 10) 0 (-1)) 1 (-1)) 2 (-1)) 3 (-1))) 13 (upd (upd (upd (upd (M 13) 0 (-1)) 1 (-1)) 2 (-1)) 3 (-1))) 2 (upd (upd (upd (upd (upd (upd (M 2) 0 (-1)) 1 (-1)) 2 (-1)) 3 (-1)) 4 (-1)) 5 (-1)), (0, 0, 0, (-1), 0, 0), 0, 0) u91 := by rw [hu91]; exact hM
  refine lv_iinc (v := 6) (lv' := [(1, .int 6), (0, .ref (am 28))]) hx hb dX9_init_209 hl (k := 0) rfl (by decide) (by decide) rfl (fun ls hl => ?_)
  refine lv_goto (tgt := 196) hx hb dX9_init_212 (by decide) ?_
  refine lv_iload_n hx hb dX9_init_196 rfl (lv_at hl 0 rfl) ?_
  refine lv_bipush (v := 8) hx hb dX9_init_197 (by decide) ?_
  refine lv_icmp_ge (tgt := 215) hx hb dX9_init_199 (by decide) (fun h => absurd h (by decide)) (fun _ => ?_)
  refine lv_aload_n hx hb dX9_init_202 rfl (lv_at hl 1 rfl) ?_
  refine fw_get (v := .ref (am 2)) X gC_ok hF hM.2.1 rfl 2 (by decide) wm_481 rfl dX9_init_203 ?_
  refine lv_iload_n hx hb dX9_init_206 rfl (lv_at hl 0 rfl) ?_
  refine lv_iconst (v := (-1)) hx hb dX9_init_207 (by decide) ?_
  refine fw_iast X hF hS (hM.2.2 2 (Or.inl (by decide))) 0 rfl (vp_in_iff.mpr (by decide)) dX9_init_208 (fun H locs hF hS => ?_)
  obtain ⟨u93, hu93⟩ : ∃ y : fW, y = va_up u91 (am 2) (some (.inl (cs 0, 8, .inl (upd (upd (upd (upd (upd (upd (upd (M 2) 0 (-1)) 1 (-1)) 2 (-1)) 3 (-1)) 4 (-1)) 5 (-1)) 6 (-1))))) := ⟨_, rfl⟩
  have hM := hM.set 2 (Or.inl (by decide)) (upd (upd (upd (upd (upd (upd (upd (M 2) 0 (-1)) 1 (-1)) 2 (-1)) 3 (-1)) 4 (-1)) 5 (-1)) 6 (-1))
  rw [uu] at hM
  have hF : fw_P D cls10 A u93 H := by rw [hu93]; exact hF
  have hM : MWd cs am (va_up (va_up (va_up (va_up (va_up (va_up (va_up (va_up (va_up (va_up (va_up (va_up (va_up M 8 (upd (M 8) 0 (-1))) 10 (upd (M 10) 0 (-1))) 13 (upd (M 13) 0 (-1))) 8 (upd (upd (M 8) 0 (-1)) 1 (-1))) 10 (upd (upd (M 10) 0 (-1)) 1 (-1))) 13 (upd (upd (M 13) 0 (-1)) 1 (-1))) 8 (upd (upd (upd (M 8) 0 (-1)) 1 (-1)) 2 (-1))) 10 (upd (upd (upd (M 10) 0 (-1)) 1 (-1)) 2 (-1))) 13 (upd (upd (upd (M 13) 0 (-1)) 1 (-1)) 2 (-1))) 8 (upd (upd (upd (upd (M 8) 0 (-1)) 1 (-1)) 2 (-1)) 3 (-1))) 10 (upd (upd (upd (upd (M 10) 0 (-1)) 1 (-1)) 2 (-1)) 3 (-1))) 13 (upd (upd (upd (upd (M 13) 0 (-1)) 1 (-1)) 2 (-1)) 3 (-1))) 2 (upd (upd (upd (upd (upd (upd (upd (M 2) 0 (-1)) 1 (-1)) 2 (-1)) 3 (-1)) 4 (-1)) 5 (-1)) 6 (-1)), (0, 0, 0, (-1), 0, 0), 0, 0) u93 := by rw [hu93]; exact hM
  refine lv_iinc (v := 7) (lv' := [(1, .int 7), (0, .ref (am 28))]) hx hb dX9_init_209 hl (k := 0) rfl (by decide) (by decide) rfl (fun ls hl => ?_)
  refine lv_goto (tgt := 196) hx hb dX9_init_212 (by decide) ?_
  refine lv_iload_n hx hb dX9_init_196 rfl (lv_at hl 0 rfl) ?_
  refine lv_bipush (v := 8) hx hb dX9_init_197 (by decide) ?_
  refine lv_icmp_ge (tgt := 215) hx hb dX9_init_199 (by decide) (fun h => absurd h (by decide)) (fun _ => ?_)
  refine lv_aload_n hx hb dX9_init_202 rfl (lv_at hl 1 rfl) ?_
  refine fw_get (v := .ref (am 2)) X gC_ok hF hM.2.1 rfl 2 (by decide) wm_481 rfl dX9_init_203 ?_
  refine lv_iload_n hx hb dX9_init_206 rfl (lv_at hl 0 rfl) ?_
  refine lv_iconst (v := (-1)) hx hb dX9_init_207 (by decide) ?_
  refine fw_iast X hF hS (hM.2.2 2 (Or.inl (by decide))) 0 rfl (vp_in_iff.mpr (by decide)) dX9_init_208 (fun H locs hF hS => ?_)
  obtain ⟨u95, hu95⟩ : ∃ y : fW, y = va_up u93 (am 2) (some (.inl (cs 0, 8, .inl (upd (upd (upd (upd (upd (upd (upd (upd (M 2) 0 (-1)) 1 (-1)) 2 (-1)) 3 (-1)) 4 (-1)) 5 (-1)) 6 (-1)) 7 (-1))))) := ⟨_, rfl⟩
  have hM := hM.set 2 (Or.inl (by decide)) (upd (upd (upd (upd (upd (upd (upd (upd (M 2) 0 (-1)) 1 (-1)) 2 (-1)) 3 (-1)) 4 (-1)) 5 (-1)) 6 (-1)) 7 (-1))
  rw [uu] at hM
  have hF : fw_P D cls10 A u95 H := by rw [hu95]; exact hF
  have hM : MWd cs am (va_up (va_up (va_up (va_up (va_up (va_up (va_up (va_up (va_up (va_up (va_up (va_up (va_up M 8 (upd (M 8) 0 (-1))) 10 (upd (M 10) 0 (-1))) 13 (upd (M 13) 0 (-1))) 8 (upd (upd (M 8) 0 (-1)) 1 (-1))) 10 (upd (upd (M 10) 0 (-1)) 1 (-1))) 13 (upd (upd (M 13) 0 (-1)) 1 (-1))) 8 (upd (upd (upd (M 8) 0 (-1)) 1 (-1)) 2 (-1))) 10 (upd (upd (upd (M 10) 0 (-1)) 1 (-1)) 2 (-1))) 13 (upd (upd (upd (M 13) 0 (-1)) 1 (-1)) 2 (-1))) 8 (upd (upd (upd (upd (M 8) 0 (-1)) 1 (-1)) 2 (-1)) 3 (-1))) 10 (upd (upd (upd (upd (M 10) 0 (-1)) 1 (-1)) 2 (-1)) 3 (-1))) 13 (upd (upd (upd (upd (M 13) 0 (-1)) 1 (-1)) 2 (-1)) 3 (-1))) 2 (upd (upd (upd (upd (upd (upd (upd (upd (M 2) 0 (-1)) 1 (-1)) 2 (-1)) 3 (-1)) 4 (-1)) 5 (-1)) 6 (-1)) 7 (-1)), (0, 0, 0, (-1), 0, 0), 0, 0) u95 := by rw [hu95]; exact hM
  refine lv_iinc (v := 8) (lv' := [(1, .int 8), (0, .ref (am 28))]) hx hb dX9_init_209 hl (k := 0) rfl (by decide) (by decide) rfl (fun ls hl => ?_)
  refine lv_goto (tgt := 196) hx hb dX9_init_212 (by decide) ?_
  refine lv_iload_n hx hb dX9_init_196 rfl (lv_at hl 0 rfl) ?_
  refine lv_bipush (v := 8) hx hb dX9_init_197 (by decide) ?_
  refine lv_icmp_ge (tgt := 215) hx hb dX9_init_199 (by decide) (fun _ => ?_) (fun h => absurd h (by decide))
  refine fw_vret X hF hS ?_ (Nat.le_of_ble_eq_true rfl) (Nat.le_of_ble_eq_true rfl) dX9_init_215
  refine ⟨rfl, am, e28.symm, _, fun _ => 0, 0, 0, hM, ?_⟩
  subst hM0
  refine MR00 (fun k hk i => ?_) (fun i hi => ?_) (fun i hi => ?_) (fun i hi => ?_) (fun i hi => ?_)
  · rcases hk with h | h | h | h | h | h | h | h | h | h <;> subst h <;> rfl
  · match i, hi with
    | 0, _ => rfl
    | 1, _ => rfl
    | 2, _ => rfl
    | 3, _ => rfl
    | 4, _ => rfl
    | 5, _ => rfl
    | 6, _ => rfl
    | 7, _ => rfl
    | i + 8, h => exact absurd h (by omega)
  · match i, hi with
    | 0, _ => rfl
    | 1, _ => rfl
    | 2, _ => rfl
    | 3, _ => rfl
    | i + 4, h => exact absurd h (by omega)
  · match i, hi with
    | 0, _ => rfl
    | 1, _ => rfl
    | 2, _ => rfl
    | 3, _ => rfl
    | i + 4, h => exact absurd h (by omega)
  · match i, hi with
    | 0, _ => rfl
    | 1, _ => rfl
    | 2, _ => rfl
    | 3, _ => rfl
    | i + 4, h => exact absurd h (by omega)
