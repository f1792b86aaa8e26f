theorem in_b2 (b : Int32) : inn b.toInt64 0 2 = wi b 3 := inn_wi rfl
theorem wi3 {b : Int32} : wi b 3 = true ↔ (b = 0 ∨ b = 1 ∨ b = 2) := by
  have h4 : (3 : Int32).toInt = 3 := rfl
  rw [wi_iff, gx_i b 0 (a := 0) rfl, gx_i b 1 (a := 1) rfl, gx_i b 2 (a := 2) rfl, h4]
  omega
def mLong (M : Nat → Nat → Int32) (a : Nat) (b d : Int32) : Int32 × Int32 := if b = 0 then spLen (M 8 a) else if b = 1 then spLen (M 10 a) else if b = 2 then spLen (M 13 a) else spRow (M 13 a) (M 14 a) d
def mBit (x : Int32) : Int32 := if x = 0 then 0 else 1
theorem nI_nm1 {s : Nat} (h : s < 100) : ¬ nI s = -1 := fun e => by
  have h1 := congrArg Int32.toInt e
  rw [nI_toInt (by omega)] at h1
  have e1 : (-1 : Int32).toInt = -1 := rfl
  omega
set_option maxHeartbeats 4000000 in
set_option maxRecDepth 100000 in
theorem c_X9_shine (l : Launch) (D : va_G) (cs : Nat → ClassId) (w : fW) (sz : Nat) (am : Nat → Nat) (M : Nat → Nat → Int32) (R : aRe) (wy an : Int32) (hM : MWd cs am (M, R, wy, an) w) (a : Nat) (b : Int32) (ha : a < 4) : gM l bs_B nw_B D cls10 (tyl cs) yX9_shine cX9_shine 3 none 1 21 0 0 w sz [.ref (am 28), .int (nI a), .int b] (fun v w' => ((M 0 a = 0 ∨ M 3 a = 0) ∧ v = none ∧ MWd cs am (M, R, 1, 0) w') ∨ (¬ (M 0 a = 0 ∨ M 3 a = 0) ∧ v = none ∧ MWd cs am (va_up M 4 (upd (M 4) a (if M 3 a = 2 ∧ 0 < M 4 a then M 4 a - 1 else M 4 a)), R, wy, (if M 3 a = 1 then 3 * b else if 0 < M 4 a then b else 0)) w')) := by
  refine gM.of (by decide +kernel) (Nat.le_of_ble_eq_true rfl) (fun p e s m below meth c A ls X hsz hnm hF hS hl => ?_)
  have hx := X.1
  have hb := X.2.1
  have hl : lv_has ls 3 [(0, .ref (am 28)), (1, .int (nI a)), (2, .int b)] := hl
  refine lv_aload_n hx hb dX9_shine_0 rfl (lv_at hl 0 rfl) ?_
  refine fw_get (v := .ref (am 0)) X gC_ok hF hM.2.1 rfl 0 (by decide) wm_479 rfl dX9_shine_1 ?_
  refine lv_iload_n hx hb dX9_shine_4 rfl (lv_at hl 1 rfl) ?_
  refine fw_zald X hF (hM.2.2 0 (Or.inl (by decide))) 1 rfl (show vp_in (nI a) 4 from vp_in_nI (by omega) (by decide)) (v := (M 0) a) (by rw [nI_clamp (by omega)] <;> rfl) dX9_shine_5 ?_
  refine lv_if_eq (tgt := 18) hx hb dX9_shine_6 (by decide) (fun c6_1 => ?_) (fun c6_1 => ?_)
  · refine lv_aload_n hx hb dX9_shine_18 rfl (lv_at hl 0 rfl) ?_
    refine lv_iconst (v := 1) hx hb dX9_shine_19 (by decide) ?_
    refine fw_callV (As := [.int 1]) (rest := []) X bs_all nw_all mf_X9_fails (c_X9_fails l D cs _ _ am M R wy an hM 1) wm_594 wm_596 wm_11 hF hS rfl hM.2.1 rfl rfl ((⟨⟨Nat.le_of_ble_eq_true rfl, Nat.le_of_ble_eq_true rfl⟩, Nat.le_of_ble_eq_true rfl, Nat.le_of_ble_eq_true rfl⟩)) rfl hl.1 rfl (Nat.le_of_ble_eq_true rfl) dX9_shine_20 (fun v u2 H locs hp hF hS hz1 hk1 hd1 => ?_)
    obtain ⟨hv1, hM⟩ := hp
    subst hv1
    have hM : MWd cs am (M, R, 1, 0) u2 := hM
    refine W.eq (g2 := F0 m 23 ls []) rfl ?_
    refine fw_vret X hF hS ?_ (Nat.le_of_ble_eq_true rfl) (Nat.le_of_ble_eq_true rfl) dX9_shine_23
    exact Or.inl ⟨Or.inl c6_1, rfl, hM⟩
  · refine lv_aload_n hx hb dX9_shine_9 rfl (lv_at hl 0 rfl) ?_
    refine fw_get (v := .ref (am 3)) X gC_ok hF hM.2.1 rfl 3 (by decide) wm_482 rfl dX9_shine_10 ?_
    refine lv_iload_n hx hb dX9_shine_13 rfl (lv_at hl 1 rfl) ?_
    refine fw_iald X hF (hM.2.2 3 (Or.inl (by decide))) 0 rfl (show vp_in (nI a) 4 from vp_in_nI (by omega) (by decide)) (v := (M 3) a) (by rw [nI_clamp (by omega)] <;> rfl) dX9_shine_14 ?_
    refine lv_if_ne (tgt := 24) hx hb dX9_shine_15 (by decide) (fun c15_3 => ?_) (fun c15_3 => ?_)
    · refine lv_aload_n hx hb dX9_shine_24 rfl (lv_at hl 0 rfl) ?_
      refine lv_aload_n hx hb dX9_shine_25 rfl (lv_at hl 0 rfl) ?_
      refine fw_get (v := .ref (am 3)) X gC_ok hF hM.2.1 rfl 3 (by decide) wm_482 rfl dX9_shine_26 ?_
      refine lv_iload_n hx hb dX9_shine_29 rfl (lv_at hl 1 rfl) ?_
      refine fw_iald X hF (hM.2.2 3 (Or.inl (by decide))) 0 rfl (show vp_in (nI a) 4 from vp_in_nI (by omega) (by decide)) (v := (M 3) a) (by rw [nI_clamp (by omega)] <;> rfl) dX9_shine_30 ?_
      refine lv_iconst (v := 1) hx hb dX9_shine_31 (by decide) ?_
      refine lv_icmp_ne (tgt := 41) hx hb dX9_shine_32 (by decide) (fun c32_4 => ?_) (fun c32_4 => ?_)
      · refine lv_aload_n hx hb dX9_shine_41 rfl (lv_at hl 0 rfl) ?_
        refine fw_get (v := .ref (am 4)) X gC_ok hF hM.2.1 rfl 4 (by decide) wm_483 rfl dX9_shine_42 ?_
        refine lv_iload_n hx hb dX9_shine_45 rfl (lv_at hl 1 rfl) ?_
        refine fw_iald X hF (hM.2.2 4 (Or.inl (by decide))) 0 rfl (show vp_in (nI a) 4 from vp_in_nI (by omega) (by decide)) (v := (M 4) a) (by rw [nI_clamp (by omega)] <;> rfl) dX9_shine_46 ?_
        refine lv_if_le (tgt := 54) hx hb dX9_shine_47 (by decide) (fun c47_5 => ?_) (fun c47_5 => ?_)
        · refine lv_iconst (v := 0) hx hb dX9_shine_54 (by decide) ?_
          refine fw_put X gC_ok hF hS hM.2.1 rfl 27 (by decide) wm_506 rfl (tf := .int) (by decide +kernel) rfl rfl (Nat.le_of_ble_eq_true rfl) dX9_shine_55 (fun H locs hF hS => ?_)
          obtain ⟨u6, hu6⟩ : ∃ y : fW, y = va_up w (am 28) (some (mObj am (M, R, wy, 0))) := ⟨_, rfl⟩
          have hM := hM.obj R wy 0
          have hF : fw_P D cls10 A u6 H := by rw [hu6]; exact hF
          have hM : MWd cs am (M, R, wy, 0) u6 := by rw [hu6]; exact hM
          refine lv_aload_n hx hb dX9_shine_58 rfl (lv_at hl 0 rfl) ?_
          refine fw_get (v := .ref (am 4)) X gC_ok hF hM.2.1 rfl 4 (by decide) wm_483 rfl dX9_shine_59 ?_
          refine lv_iload_n hx hb dX9_shine_62 rfl (lv_at hl 1 rfl) ?_
          refine lv_aload_n hx hb dX9_shine_63 rfl (lv_at hl 0 rfl) ?_
          refine fw_get (v := .ref (am 3)) X gC_ok hF hM.2.1 rfl 3 (by decide) wm_482 rfl dX9_shine_64 ?_
          refine lv_iload_n hx hb dX9_shine_67 rfl (lv_at hl 1 rfl) ?_
          refine fw_iald X hF (hM.2.2 3 (Or.inl (by decide))) 0 rfl (show vp_in (nI a) 4 from vp_in_nI (by omega) (by decide)) (v := (M 3) a) (by rw [nI_clamp (by omega)] <;> rfl) dX9_shine_68 ?_
          refine lv_iconst (v := 2) hx hb dX9_shine_69 (by decide) ?_
          refine lv_icmp_ne (tgt := 93) hx hb dX9_shine_70 (by decide) (fun c70_7 => ?_) (fun c70_7 => ?_)
          · refine lv_aload_n hx hb dX9_shine_93 rfl (lv_at hl 0 rfl) ?_
            refine fw_get (v := .ref (am 4)) X gC_ok hF hM.2.1 rfl 4 (by decide) wm_483 rfl dX9_shine_94 ?_
            refine lv_iload_n hx hb dX9_shine_97 rfl (lv_at hl 1 rfl) ?_
            refine fw_iald X hF (hM.2.2 4 (Or.inl (by decide))) 0 rfl (show vp_in (nI a) 4 from vp_in_nI (by omega) (by decide)) (v := (M 4) a) (by rw [nI_clamp (by omega)] <;> rfl) dX9_shine_98 ?_
            refine fw_iast X hF hS (hM.2.2 4 (Or.inl (by decide))) 0 rfl (show vp_in (nI a) 4 from vp_in_nI (by omega) (by decide)) dX9_shine_99 (fun H locs hF hS => ?_)
            rw [show (nI a).toNatClampNeg = a from nI_clamp (by omega)] at hF
            obtain ⟨u8, hu8⟩ : ∃ y : fW, y = va_up u6 (am 4) (some (.inl (cs 0, 4, .inl (upd (M 4) a ((M 4) a))))) := ⟨_, rfl⟩
            have hM := hM.set 4 (Or.inl (by decide)) (upd (M 4) a ((M 4) a))
            have hF : fw_P D cls10 A u8 H := by rw [hu8]; exact hF
            have hM : MWd cs am (va_up M 4 (upd (M 4) a ((M 4) a)), R, wy, 0) u8 := by rw [hu8]; exact hM
            refine fw_vret X hF hS ?_ (Nat.le_of_ble_eq_true rfl) (Nat.le_of_ble_eq_true rfl) dX9_shine_100
            refine Or.inr ⟨fun z => z.elim c6_1 c15_3, rfl, ?_⟩
            have gc47_5 := i_nlt.mpr c47_5
            first | (simpa [c32_4, gc47_5, c70_7] using hM) | (exfalso; simp_all; done)
          · refine lv_aload_n hx hb dX9_shine_73 rfl (lv_at hl 0 rfl) ?_
            refine fw_get (v := .ref (am 4)) X gC_ok hF hM.2.1 rfl 4 (by decide) wm_483 rfl dX9_shine_74 ?_
            refine lv_iload_n hx hb dX9_shine_77 rfl (lv_at hl 1 rfl) ?_
            refine fw_iald X hF (hM.2.2 4 (Or.inl (by decide))) 0 rfl (show vp_in (nI a) 4 from vp_in_nI (by omega) (by decide)) (v := (M 4) a) (by rw [nI_clamp (by omega)] <;> rfl) dX9_shine_78 ?_
            refine lv_if_le (tgt := 93) hx hb dX9_shine_79 (by decide) (fun c79_9 => ?_) (fun c79_9 => ?_)
            · refine lv_aload_n hx hb dX9_shine_93 rfl (lv_at hl 0 rfl) ?_
              refine fw_get (v := .ref (am 4)) X gC_ok hF hM.2.1 rfl 4 (by decide) wm_483 rfl dX9_shine_94 ?_
              refine lv_iload_n hx hb dX9_shine_97 rfl (lv_at hl 1 rfl) ?_
              refine fw_iald X hF (hM.2.2 4 (Or.inl (by decide))) 0 rfl (show vp_in (nI a) 4 from vp_in_nI (by omega) (by decide)) (v := (M 4) a) (by rw [nI_clamp (by omega)] <;> rfl) dX9_shine_98 ?_
              refine fw_iast X hF hS (hM.2.2 4 (Or.inl (by decide))) 0 rfl (show vp_in (nI a) 4 from vp_in_nI (by omega) (by decide)) dX9_shine_99 (fun H locs hF hS => ?_)
              rw [show (nI a).toNatClampNeg = a from nI_clamp (by omega)] at hF
              obtain ⟨u10, hu10⟩ : ∃ y : fW, y = va_up u6 (am 4) (some (.inl (cs 0, 4, .inl (upd (M 4) a ((M 4) a))))) := ⟨_, rfl⟩
              have hM := hM.set 4 (Or.inl (by decide)) (upd (M 4) a ((M 4) a))
              have hF : fw_P D cls10 A u10 H := by rw [hu10]; exact hF
              have hM : MWd cs am (va_up M 4 (upd (M 4) a ((M 4) a)), R, wy, 0) u10 := by rw [hu10]; exact hM
              refine fw_vret X hF hS ?_ (Nat.le_of_ble_eq_true rfl) (Nat.le_of_ble_eq_true rfl) dX9_shine_100
              refine Or.inr ⟨fun z => z.elim c6_1 c15_3, rfl, ?_⟩
              have gc47_5 := i_nlt.mpr c47_5
              have gc79_9 := i_nlt.mpr c79_9
              first | (simpa [c32_4, gc47_5, c70_7, gc79_9] using hM) | (exfalso; simp_all; done)
            · refine lv_aload_n hx hb dX9_shine_82 rfl (lv_at hl 0 rfl) ?_
              refine fw_get (v := .ref (am 4)) X gC_ok hF hM.2.1 rfl 4 (by decide) wm_483 rfl dX9_shine_83 ?_
              refine lv_iload_n hx hb dX9_shine_86 rfl (lv_at hl 1 rfl) ?_
              refine fw_iald X hF (hM.2.2 4 (Or.inl (by decide))) 0 rfl (show vp_in (nI a) 4 from vp_in_nI (by omega) (by decide)) (v := (M 4) a) (by rw [nI_clamp (by omega)] <;> rfl) dX9_shine_87 ?_
              refine lv_iconst (v := 1) hx hb dX9_shine_88 (by decide) ?_
              refine lv_isub hx hb dX9_shine_89 ?_
              refine lv_goto (tgt := 99) hx hb dX9_shine_90 (by decide) ?_
              refine fw_iast X hF hS (hM.2.2 4 (Or.inl (by decide))) 0 rfl (show vp_in (nI a) 4 from vp_in_nI (by omega) (by decide)) dX9_shine_99 (fun H locs hF hS => ?_)
              rw [show (nI a).toNatClampNeg = a from nI_clamp (by omega)] at hF
              obtain ⟨u11, hu11⟩ : ∃ y : fW, y = va_up u6 (am 4) (some (.inl (cs 0, 4, .inl (upd (M 4) a (((M 4) a) - 1))))) := ⟨_, rfl⟩
              have hM := hM.set 4 (Or.inl (by decide)) (upd (M 4) a (((M 4) a) - 1))
              have hF : fw_P D cls10 A u11 H := by rw [hu11]; exact hF
              have hM : MWd cs am (va_up M 4 (upd (M 4) a (((M 4) a) - 1)), R, wy, 0) u11 := by rw [hu11]; exact hM
              refine fw_vret X hF hS ?_ (Nat.le_of_ble_eq_true rfl) (Nat.le_of_ble_eq_true rfl) dX9_shine_100
              refine Or.inr ⟨fun z => z.elim c6_1 c15_3, rfl, ?_⟩
              have gc47_5 := i_nlt.mpr c47_5
              have gc79_9 := i_nle.mp c79_9
              first | (simpa [c32_4, gc47_5, c70_7, gc79_9] using hM) | (exfalso; simp_all; done)
        · refine lv_iload_n hx hb dX9_shine_50 rfl (lv_at hl 2 rfl) ?_
          refine lv_goto (tgt := 55) hx hb dX9_shine_51 (by decide) ?_
          refine fw_put X gC_ok hF hS hM.2.1 rfl 27 (by decide) wm_506 rfl (tf := .int) (by decide +kernel) rfl rfl (Nat.le_of_ble_eq_true rfl) dX9_shine_55 (fun H locs hF hS => ?_)
          obtain ⟨u12, hu12⟩ : ∃ y : fW, y = va_up w (am 28) (some (mObj am (M, R, wy, b))) := ⟨_, rfl⟩
          have hM := hM.obj R wy b
          have hF : fw_P D cls10 A u12 H := by rw [hu12]; exact hF
          have hM : MWd cs am (M, R, wy, b) u12 := by rw [hu12]; exact hM
          refine lv_aload_n hx hb dX9_shine_58 rfl (lv_at hl 0 rfl) ?_
          refine fw_get (v := .ref (am 4)) X gC_ok hF hM.2.1 rfl 4 (by decide) wm_483 rfl dX9_shine_59 ?_
          refine lv_iload_n hx hb dX9_shine_62 rfl (lv_at hl 1 rfl) ?_
          refine lv_aload_n hx hb dX9_shine_63 rfl (lv_at hl 0 rfl) ?_
          refine fw_get (v := .ref (am 3)) X gC_ok hF hM.2.1 rfl 3 (by decide) wm_482 rfl dX9_shine_64 ?_
          refine lv_iload_n hx hb dX9_shine_67 rfl (lv_at hl 1 rfl) ?_
          refine fw_iald X hF (hM.2.2 3 (Or.inl (by decide))) 0 rfl (show vp_in (nI a) 4 from vp_in_nI (by omega) (by decide)) (v := (M 3) a) (by rw [nI_clamp (by omega)] <;> rfl) dX9_shine_68 ?_
          refine lv_iconst (v := 2) hx hb dX9_shine_69 (by decide) ?_
          refine lv_icmp_ne (tgt := 93) hx hb dX9_shine_70 (by decide) (fun c70_13 => ?_) (fun c70_13 => ?_)
          · refine lv_aload_n hx hb dX9_shine_93 rfl (lv_at hl 0 rfl) ?_
            refine fw_get (v := .ref (am 4)) X gC_ok hF hM.2.1 rfl 4 (by decide) wm_483 rfl dX9_shine_94 ?_
            refine lv_iload_n hx hb dX9_shine_97 rfl (lv_at hl 1 rfl) ?_
            refine fw_iald X hF (hM.2.2 4 (Or.inl (by decide))) 0 rfl (show vp_in (nI a) 4 from vp_in_nI (by omega) (by decide)) (v := (M 4) a) (by rw [nI_clamp (by omega)] <;> rfl) dX9_shine_98 ?_
            refine fw_iast X hF hS (hM.2.2 4 (Or.inl (by decide))) 0 rfl (show vp_in (nI a) 4 from vp_in_nI (by omega) (by decide)) dX9_shine_99 (fun H locs hF hS => ?_)
            rw [show (nI a).toNatClampNeg = a from nI_clamp (by omega)] at hF
            obtain ⟨u14, hu14⟩ : ∃ y : fW, y = va_up u12 (am 4) (some (.inl (cs 0, 4, .inl (upd (M 4) a ((M 4) a))))) := ⟨_, rfl⟩
            have hM := hM.set 4 (Or.inl (by decide)) (upd (M 4) a ((M 4) a))
            have hF : fw_P D cls10 A u14 H := by rw [hu14]; exact hF
            have hM : MWd cs am (va_up M 4 (upd (M 4) a ((M 4) a)), R, wy, b) u14 := by rw [hu14]; exact hM
            refine fw_vret X hF hS ?_ (Nat.le_of_ble_eq_true rfl) (Nat.le_of_ble_eq_true rfl) dX9_shine_100
            refine Or.inr ⟨fun z => z.elim c6_1 c15_3, rfl, ?_⟩
            have gc47_5 := i_nle.mp c47_5
            first | (simpa [c32_4, gc47_5, c70_13] using hM) | (exfalso; simp_all; done)
          · refine lv_aload_n hx hb dX9_shine_73 rfl (lv_at hl 0 rfl) ?_
            refine fw_get (v := .ref (am 4)) X gC_ok hF hM.2.1 rfl 4 (by decide) wm_483 rfl dX9_shine_74 ?_
            refine lv_iload_n hx hb dX9_shine_77 rfl (lv_at hl 1 rfl) ?_
            refine fw_iald X hF (hM.2.2 4 (Or.inl (by decide))) 0 rfl (show vp_in (nI a) 4 from vp_in_nI (by omega) (by decide)) (v := (M 4) a) (by rw [nI_clamp (by omega)] <;> rfl) dX9_shine_78 ?_
            refine lv_if_le (tgt := 93) hx hb dX9_shine_79 (by decide) (fun c79_15 => ?_) (fun c79_15 => ?_)
            · refine lv_aload_n hx hb dX9_shine_93 rfl (lv_at hl 0 rfl) ?_
              refine fw_get (v := .ref (am 4)) X gC_ok hF hM.2.1 rfl 4 (by decide) wm_483 rfl dX9_shine_94 ?_
              refine lv_iload_n hx hb dX9_shine_97 rfl (lv_at hl 1 rfl) ?_
              refine fw_iald X hF (hM.2.2 4 (Or.inl (by decide))) 0 rfl (show vp_in (nI a) 4 from vp_in_nI (by omega) (by decide)) (v := (M 4) a) (by rw [nI_clamp (by omega)] <;> rfl) dX9_shine_98 ?_
              refine fw_iast X hF hS (hM.2.2 4 (Or.inl (by decide))) 0 rfl (show vp_in (nI a) 4 from vp_in_nI (by omega) (by decide)) dX9_shine_99 (fun H locs hF hS => ?_)
              rw [show (nI a).toNatClampNeg = a from nI_clamp (by omega)] at hF
              obtain ⟨u16, hu16⟩ : ∃ y : fW, y = va_up u12 (am 4) (some (.inl (cs 0, 4, .inl (upd (M 4) a ((M 4) a))))) := ⟨_, rfl⟩
              have hM := hM.set 4 (Or.inl (by decide)) (upd (M 4) a ((M 4) a))
              have hF : fw_P D cls10 A u16 H := by rw [hu16]; exact hF
              have hM : MWd cs am (va_up M 4 (upd (M 4) a ((M 4) a)), R, wy, b) u16 := by rw [hu16]; exact hM
              refine fw_vret X hF hS ?_ (Nat.le_of_ble_eq_true rfl) (Nat.le_of_ble_eq_true rfl) dX9_shine_100
              refine Or.inr ⟨fun z => z.elim c6_1 c15_3, rfl, ?_⟩
              have gc47_5 := i_nle.mp c47_5
              have gc79_15 := i_nlt.mpr c79_15
              first | (simpa [c32_4, gc47_5, c70_13, gc79_15] using hM) | (exfalso; simp_all; done)
            · refine lv_aload_n hx hb dX9_shine_82 rfl (lv_at hl 0 rfl) ?_
              refine fw_get (v := .ref (am 4)) X gC_ok hF hM.2.1 rfl 4 (by decide) wm_483 rfl dX9_shine_83 ?_
              refine lv_iload_n hx hb dX9_shine_86 rfl (lv_at hl 1 rfl) ?_
              refine fw_iald X hF (hM.2.2 4 (Or.inl (by decide))) 0 rfl (show vp_in (nI a) 4 from vp_in_nI (by omega) (by decide)) (v := (M 4) a) (by rw [nI_clamp (by omega)] <;> rfl) dX9_shine_87 ?_
              refine lv_iconst (v := 1) hx hb dX9_shine_88 (by decide) ?_
              refine lv_isub hx hb dX9_shine_89 ?_
              refine lv_goto (tgt := 99) hx hb dX9_shine_90 (by decide) ?_
              refine fw_iast X hF hS (hM.2.2 4 (Or.inl (by decide))) 0 rfl (show vp_in (nI a) 4 from vp_in_nI (by omega) (by decide)) dX9_shine_99 (fun H locs hF hS => ?_)
              rw [show (nI a).toNatClampNeg = a from nI_clamp (by omega)] at hF
              obtain ⟨u17, hu17⟩ : ∃ y : fW, y = va_up u12 (am 4) (some (.inl (cs 0, 4, .inl (upd (M 4) a (((M 4) a) - 1))))) := ⟨_, rfl⟩
              have hM := hM.set 4 (Or.inl (by decide)) (upd (M 4) a (((M 4) a) - 1))
              have hF : fw_P D cls10 A u17 H := by rw [hu17]; exact hF
              have hM : MWd cs am (va_up M 4 (upd (M 4) a (((M 4) a) - 1)), R, wy, b) u17 := by rw [hu17]; exact hM
              refine fw_vret X hF hS ?_ (Nat.le_of_ble_eq_true rfl) (Nat.le_of_ble_eq_true rfl) dX9_shine_100
              refine Or.inr ⟨fun z => z.elim c6_1 c15_3, rfl, ?_⟩
              have gc47_5 := i_nle.mp c47_5
              have gc79_15 := i_nle.mp c79_15
              first | (simpa [c32_4, gc47_5, c70_13, gc79_15] using hM) | (exfalso; simp_all; done)
      · refine lv_iconst (v := 3) hx hb dX9_shine_35 (by decide) ?_
        refine lv_iload_n hx hb dX9_shine_36 rfl (lv_at hl 2 rfl) ?_
        refine lv_imul hx hb dX9_shine_37 ?_
        refine lv_goto (tgt := 55) hx hb dX9_shine_38 (by decide) ?_
        refine fw_put X gC_ok hF hS hM.2.1 rfl 27 (by decide) wm_506 rfl (tf := .int) (by decide +kernel) rfl rfl (Nat.le_of_ble_eq_true rfl) dX9_shine_55 (fun H locs hF hS => ?_)
        obtain ⟨u18, hu18⟩ : ∃ y : fW, y = va_up w (am 28) (some (mObj am (M, R, wy, 3 * b))) := ⟨_, rfl⟩
        have hM := hM.obj R wy (3 * b)
        have hF : fw_P D cls10 A u18 H := by rw [hu18]; exact hF
        have hM : MWd cs am (M, R, wy, 3 * b) u18 := by rw [hu18]; exact hM
        refine lv_aload_n hx hb dX9_shine_58 rfl (lv_at hl 0 rfl) ?_
        refine fw_get (v := .ref (am 4)) X gC_ok hF hM.2.1 rfl 4 (by decide) wm_483 rfl dX9_shine_59 ?_
        refine lv_iload_n hx hb dX9_shine_62 rfl (lv_at hl 1 rfl) ?_
        refine lv_aload_n hx hb dX9_shine_63 rfl (lv_at hl 0 rfl) ?_
        refine fw_get (v := .ref (am 3)) X gC_ok hF hM.2.1 rfl 3 (by decide) wm_482 rfl dX9_shine_64 ?_
        refine lv_iload_n hx hb dX9_shine_67 rfl (lv_at hl 1 rfl) ?_
        refine fw_iald X hF (hM.2.2 3 (Or.inl (by decide))) 0 rfl (show vp_in (nI a) 4 from vp_in_nI (by omega) (by decide)) (v := (M 3) a) (by rw [nI_clamp (by omega)] <;> rfl) dX9_shine_68 ?_
        refine lv_iconst (v := 2) hx hb dX9_shine_69 (by decide) ?_
        refine lv_icmp_ne (tgt := 93) hx hb dX9_shine_70 (by decide) (fun c70_19 => ?_) (fun c70_19 => ?_)
        · refine lv_aload_n hx hb dX9_shine_93 rfl (lv_at hl 0 rfl) ?_
          refine fw_get (v := .ref (am 4)) X gC_ok hF hM.2.1 rfl 4 (by decide) wm_483 rfl dX9_shine_94 ?_
          refine lv_iload_n hx hb dX9_shine_97 rfl (lv_at hl 1 rfl) ?_
          refine fw_iald X hF (hM.2.2 4 (Or.inl (by decide))) 0 rfl (show vp_in (nI a) 4 from vp_in_nI (by omega) (by decide)) (v := (M 4) a) (by rw [nI_clamp (by omega)] <;> rfl) dX9_shine_98 ?_
          refine fw_iast X hF hS (hM.2.2 4 (Or.inl (by decide))) 0 rfl (show vp_in (nI a) 4 from vp_in_nI (by omega) (by decide)) dX9_shine_99 (fun H locs hF hS => ?_)
          rw [show (nI a).toNatClampNeg = a from nI_clamp (by omega)] at hF
          obtain ⟨u20, hu20⟩ : ∃ y : fW, y = va_up u18 (am 4) (some (.inl (cs 0, 4, .inl (upd (M 4) a ((M 4) a))))) := ⟨_, rfl⟩
          have hM := hM.set 4 (Or.inl (by decide)) (upd (M 4) a ((M 4) a))
          have hF : fw_P D cls10 A u20 H := by rw [hu20]; exact hF
          have hM : MWd cs am (va_up M 4 (upd (M 4) a ((M 4) a)), R, wy, 3 * b) u20 := by rw [hu20]; exact hM
          refine fw_vret X hF hS ?_ (Nat.le_of_ble_eq_true rfl) (Nat.le_of_ble_eq_true rfl) dX9_shine_100
          refine Or.inr ⟨fun z => z.elim c6_1 c15_3, rfl, ?_⟩
          first | (simpa [c32_4, c70_19] using hM) | (exfalso; simp_all; done)
        · refine lv_aload_n hx hb dX9_shine_73 rfl (lv_at hl 0 rfl) ?_
          refine fw_get (v := .ref (am 4)) X gC_ok hF hM.2.1 rfl 4 (by decide) wm_483 rfl dX9_shine_74 ?_
          refine lv_iload_n hx hb dX9_shine_77 rfl (lv_at hl 1 rfl) ?_
          refine fw_iald X hF (hM.2.2 4 (Or.inl (by decide))) 0 rfl (show vp_in (nI a) 4 from vp_in_nI (by omega) (by decide)) (v := (M 4) a) (by rw [nI_clamp (by omega)] <;> rfl) dX9_shine_78 ?_
          refine lv_if_le (tgt := 93) hx hb dX9_shine_79 (by decide) (fun c79_21 => ?_) (fun c79_21 => ?_)
          · refine lv_aload_n hx hb dX9_shine_93 rfl (lv_at hl 0 rfl) ?_
            refine fw_get (v := .ref (am 4)) X gC_ok hF hM.2.1 rfl 4 (by decide) wm_483 rfl dX9_shine_94 ?_
            refine lv_iload_n hx hb dX9_shine_97 rfl (lv_at hl 1 rfl) ?_
            refine fw_iald X hF (hM.2.2 4 (Or.inl (by decide))) 0 rfl (show vp_in (nI a) 4 from vp_in_nI (by omega) (by decide)) (v := (M 4) a) (by rw [nI_clamp (by omega)] <;> rfl) dX9_shine_98 ?_
            refine fw_iast X hF hS (hM.2.2 4 (Or.inl (by decide))) 0 rfl (show vp_in (nI a) 4 from vp_in_nI (by omega) (by decide)) dX9_shine_99 (fun H locs hF hS => ?_)
            rw [show (nI a).toNatClampNeg = a from nI_clamp (by omega)] at hF
            obtain ⟨u22, hu22⟩ : ∃ y : fW, y = va_up u18 (am 4) (some (.inl (cs 0, 4, .inl (upd (M 4) a ((M 4) a))))) := ⟨_, rfl⟩
            have hM := hM.set 4 (Or.inl (by decide)) (upd (M 4) a ((M 4) a))
            have hF : fw_P D cls10 A u22 H := by rw [hu22]; exact hF
            have hM : MWd cs am (va_up M 4 (upd (M 4) a ((M 4) a)), R, wy, 3 * b) u22 := by rw [hu22]; exact hM
            refine fw_vret X hF hS ?_ (Nat.le_of_ble_eq_true rfl) (Nat.le_of_ble_eq_true rfl) dX9_shine_100
            refine Or.inr ⟨fun z => z.elim c6_1 c15_3, rfl, ?_⟩
            have gc79_21 := i_nlt.mpr c79_21
            first | (simpa [c32_4, c70_19, gc79_21] using hM) | (exfalso; simp_all; done)
          · refine lv_aload_n hx hb dX9_shine_82 rfl (lv_at hl 0 rfl) ?_
            refine fw_get (v := .ref (am 4)) X gC_ok hF hM.2.1 rfl 4 (by decide) wm_483 rfl dX9_shine_83 ?_
            refine lv_iload_n hx hb dX9_shine_86 rfl (lv_at hl 1 rfl) ?_
            refine fw_iald X hF (hM.2.2 4 (Or.inl (by decide))) 0 rfl (show vp_in (nI a) 4 from vp_in_nI (by omega) (by decide)) (v := (M 4) a) (by rw [nI_clamp (by omega)] <;> rfl) dX9_shine_87 ?_
            refine lv_iconst (v := 1) hx hb dX9_shine_88 (by decide) ?_
            refine lv_isub hx hb dX9_shine_89 ?_
            refine lv_goto (tgt := 99) hx hb dX9_shine_90 (by decide) ?_
            refine fw_iast X hF hS (hM.2.2 4 (Or.inl (by decide))) 0 rfl (show vp_in (nI a) 4 from vp_in_nI (by omega) (by decide)) dX9_shine_99 (fun H locs hF hS => ?_)
            rw [show (nI a).toNatClampNeg = a from nI_clamp (by omega)] at hF
            obtain ⟨u23, hu23⟩ : ∃ y : fW, y = va_up u18 (am 4) (some (.inl (cs 0, 4, .inl (upd (M 4) a (((M 4) a) - 1))))) := ⟨_, rfl⟩
            have hM := hM.set 4 (Or.inl (by decide)) (upd (M 4) a (((M 4) a) - 1))
            have hF : fw_P D cls10 A u23 H := by rw [hu23]; exact hF
            have hM : MWd cs am (va_up M 4 (upd (M 4) a (((M 4) a) - 1)), R, wy, 3 * b) u23 := by rw [hu23]; exact hM
            refine fw_vret X hF hS ?_ (Nat.le_of_ble_eq_true rfl) (Nat.le_of_ble_eq_true rfl) dX9_shine_100
            refine Or.inr ⟨fun z => z.elim c6_1 c15_3, rfl, ?_⟩
            have gc79_21 := i_nle.mp c79_21
            first | (simpa [c32_4, c70_19, gc79_21] using hM) | (exfalso; simp_all; done)
    · refine lv_aload_n hx hb dX9_shine_18 rfl (lv_at hl 0 rfl) ?_
      refine lv_iconst (v := 1) hx hb dX9_shine_19 (by decide) ?_
      refine fw_callV (As := [.int 1]) (rest := []) X bs_all nw_all mf_X9_fails (c_X9_fails l D cs _ _ am M R wy an hM 1) wm_594 wm_596 wm_11 hF hS rfl hM.2.1 rfl rfl ((⟨⟨Nat.le_of_ble_eq_true rfl, Nat.le_of_ble_eq_true rfl⟩, Nat.le_of_ble_eq_true rfl, Nat.le_of_ble_eq_true rfl⟩)) rfl hl.1 rfl (Nat.le_of_ble_eq_true rfl) dX9_shine_20 (fun v u24 H locs hp hF hS hz1 hk1 hd1 => ?_)
      obtain ⟨hv1, hM⟩ := hp
      subst hv1
      have hM : MWd cs am (M, R, 1, 0) u24 := hM
      refine W.eq (g2 := F0 m 23 ls []) rfl ?_
      refine fw_vret X hF hS ?_ (Nat.le_of_ble_eq_true rfl) (Nat.le_of_ble_eq_true rfl) dX9_shine_23
      exact Or.inl ⟨Or.inr c15_3, rfl, hM⟩
set_option maxHeartbeats 4000000 in
set_option maxRecDepth 100000 in
theorem c_X9_turn (l : Launch) (D : va_G) (cs : Nat → ClassId) (w : fW) (sz : Nat) (am : Nat → Nat) (M : Nat → Nat → Int32) (R : aRe) (wy an : Int32) (hM : MWd cs am (M, R, wy, an) w) (a : Nat) (b : Int32) (ct : Bool) (ha : a < 4) (hsl : ¬ M 0 a = 0 → ¬ M 2 (2 * a + sb b) = -1 → ∃ s9, s9 < 100 ∧ M 2 (2 * a + sb b) = nI s9) : gM l bs_B nw_B D cls10 (tyl cs) yX9_turn cX9_turn 5 none 1 21 0 0 w sz [.ref (am 28), .int (nI a), .int b, .int (bz ct)] (fun v w' => ((M 0 a = 0 ∨ M 2 (2 * a + sb b) = -1) ∧ v = none ∧ MWd cs am (M, R, 1, 0) w') ∨ (¬ (M 0 a = 0 ∨ M 2 (2 * a + sb b) = -1) ∧ ct = true ∧ ∃ s9, s9 < 100 ∧ M 2 (2 * a + sb b) = nI s9 ∧ v = none ∧ MWd cs am (M, R, wy, M 5 s9) w') ∨ (¬ (M 0 a = 0 ∨ M 2 (2 * a + sb b) = -1) ∧ ct = false ∧ ∃ s9, s9 < 100 ∧ M 2 (2 * a + sb b) = nI s9 ∧ v = none ∧ MWd cs am (va_up M 6 (upd (M 6) s9 (M 6 s9 + 1)), R, wy, (M 6 s9 + 1) * M 5 s9 + mBit (M 7 s9)) w')) := by
  refine gM.of (by decide +kernel) (Nat.le_of_ble_eq_true rfl) (fun p e s m below meth c A ls X hsz hnm hF hS hl => ?_)
  have hx := X.1
  have hb := X.2.1
  have hl : lv_has ls 5 [(0, .ref (am 28)), (1, .int (nI a)), (2, .int b), (3, .int (bz ct))] := hl
  have hsb := sb_lt b
  refine lv_aload_n hx hb dX9_turn_0 rfl (lv_at hl 0 rfl) ?_
  refine fw_get (v := .ref (am 0)) X gC_ok hF hM.2.1 rfl 0 (by decide) wm_479 rfl dX9_turn_1 ?_
  refine lv_iload_n hx hb dX9_turn_4 rfl (lv_at hl 1 rfl) ?_
  refine fw_zald X hF (hM.2.2 0 (Or.inl (by decide))) 1 rfl (show vp_in (nI a) 4 from vp_in_nI (by omega) (by decide)) (v := (M 0) a) (by rw [nI_clamp (by omega)] <;> rfl) dX9_turn_5 ?_
  refine lv_if_eq (tgt := 24) hx hb dX9_turn_6 (by decide) (fun c6_1 => ?_) (fun c6_1 => ?_)
  · refine lv_iconst (v := (-1)) hx hb dX9_turn_24 (by decide) ?_
    refine lv_istore (lv' := [(4, .int (-1)), (0, .ref (am 28)), (1, .int (nI a)), (2, .int b), (3, .int (bz ct))]) hx hb dX9_turn_25 hl (by decide) rfl (fun ls hl => ?_)
    refine lv_iload hx hb dX9_turn_27 (lv_at hl 0 rfl) ?_
    refine lv_iconst (v := (-1)) hx hb dX9_turn_29 (by decide) ?_
    refine lv_icmp_ne (tgt := 39) hx hb dX9_turn_30 (by decide) (fun h => absurd h (by decide)) (fun _ => ?_)
    refine lv_aload_n hx hb dX9_turn_33 rfl (lv_at hl 1 rfl) ?_
    refine lv_iconst (v := 1) hx hb dX9_turn_34 (by decide) ?_
    refine fw_callV (As := [.int 1]) (rest := []) X bs_all nw_all mf_X9_fails (c_X9_fails l D cs _ _ am M R wy an hM 1) wm_594 wm_596 wm_11 hF hS rfl hM.2.1 rfl rfl ((⟨⟨Nat.le_of_ble_eq_true rfl, Nat.le_of_ble_eq_true rfl⟩, Nat.le_of_ble_eq_true rfl, Nat.le_of_ble_eq_true rfl⟩)) rfl hl.1 rfl (Nat.le_of_ble_eq_true rfl) dX9_turn_35 (fun v u3 H locs hp hF hS hz1 hk1 hd1 => ?_)
    obtain ⟨hv1, hM⟩ := hp
    subst hv1
    have hM : MWd cs am (M, R, 1, 0) u3 := hM
    refine W.eq (g2 := F0 m 38 ls []) rfl ?_
    refine fw_vret X hF hS ?_ (Nat.le_of_ble_eq_true rfl) (Nat.le_of_ble_eq_true rfl) dX9_turn_38
    exact Or.inl ⟨Or.inl c6_1, rfl, hM⟩
  · refine lv_aload_n hx hb dX9_turn_9 rfl (lv_at hl 0 rfl) ?_
    refine fw_get (v := .ref (am 2)) X gC_ok hF hM.2.1 rfl 2 (by decide) wm_481 rfl dX9_turn_10 ?_
    refine lv_iconst (v := 2) hx hb dX9_turn_13 (by decide) ?_
    refine lv_iload_n hx hb dX9_turn_14 rfl (lv_at hl 1 rfl) ?_
    refine lv_imul hx hb dX9_turn_15 ?_
    refine lv_iload_n hx hb dX9_turn_16 rfl (lv_at hl 2 rfl) ?_
    refine lv_iconst (v := 1) hx hb dX9_turn_17 (by decide) ?_
    refine lv_iand hx hb dX9_turn_18 ?_
    refine lv_iadd hx hb dX9_turn_19 ?_
    refine fw_iald X hF (hM.2.2 2 (Or.inl (by decide))) 0 rfl (show vp_in ((2 * (nI a)) + (b &&& 1)) 8 by rw [(show (2 * (nI a)) + (b &&& 1) = nI (2 * a + sb b) by simp only [and_sb, and_sb1, nl1, nl2, nl3, nl4, nl5, nl16, nl20, nl400, pk_mul, nI_add])]; exact vp_in_nI (by omega) (by decide)) (v := (M 2) (2 * a + sb b)) (by rw [(show (2 * (nI a)) + (b &&& 1) = nI (2 * a + sb b) by simp only [and_sb, and_sb1, nl1, nl2, nl3, nl4, nl5, nl16, nl20, nl400, pk_mul, nI_add]), nI_clamp (by omega)] <;> rfl) dX9_turn_20 ?_
    refine lv_goto (tgt := 25) hx hb dX9_turn_21 (by decide) ?_
    refine lv_istore (lv' := [(4, .int ((M 2) (2 * a + sb b))), (0, .ref (am 28)), (1, .int (nI a)), (2, .int b), (3, .int (bz ct))]) hx hb dX9_turn_25 hl (by decide) rfl (fun ls hl => ?_)
    refine lv_iload hx hb dX9_turn_27 (lv_at hl 0 rfl) ?_
    refine lv_iconst (v := (-1)) hx hb dX9_turn_29 (by decide) ?_
    refine lv_icmp_ne (tgt := 39) hx hb dX9_turn_30 (by decide) (fun c30_4 => ?_) (fun c30_4 => ?_)
    · obtain ⟨s9, hs9, es9⟩ := hsl c6_1 c30_4
      refine lv_iload_n hx hb dX9_turn_39 rfl (lv_at hl 4 rfl) ?_
      refine gx_ifeq (tgt := 55) hx hb dX9_turn_40 (by decide) (fun c40_5 => ?_) (fun c40_5 => ?_)
      · refine lv_aload_n hx hb dX9_turn_55 rfl (lv_at hl 1 rfl) ?_
        refine fw_get (v := .ref (am 6)) X gC_ok hF hM.2.1 rfl 6 (by decide) wm_485 rfl dX9_turn_56 ?_
        refine lv_iload hx hb dX9_turn_59 (lv_at hl 0 rfl) ?_
        refine lv_dup2_11 hx hb dX9_turn_61 rfl rfl ?_
        refine fw_iald X hF (hM.2.2 6 (Or.inl (by decide))) 0 rfl (show vp_in ((M 2) (2 * a + sb b)) 100 by rw [es9]; exact vp_in_nI (by omega) (by decide)) (v := (M 6) s9) (by rw [es9, nI_clamp (by omega)] <;> rfl) dX9_turn_62 ?_
        refine lv_iconst (v := 1) hx hb dX9_turn_63 (by decide) ?_
        refine lv_iadd hx hb dX9_turn_64 ?_
        refine fw_iast X hF hS (hM.2.2 6 (Or.inl (by decide))) 0 rfl (show vp_in ((M 2) (2 * a + sb b)) 100 by rw [es9]; exact vp_in_nI (by omega) (by decide)) dX9_turn_65 (fun H locs hF hS => ?_)
        rw [show ((M 2) (2 * a + sb b)).toNatClampNeg = s9 by rw [es9]; exact nI_clamp (by omega)] at hF
        obtain ⟨u6, hu6⟩ : ∃ y : fW, y = va_up w (am 6) (some (.inl (cs 0, 100, .inl (upd (M 6) s9 (((M 6) s9) + 1))))) := ⟨_, rfl⟩
        have hM := hM.set 6 (Or.inl (by decide)) (upd (M 6) s9 (((M 6) s9) + 1))
        have hF : fw_P D cls10 A u6 H := by rw [hu6]; exact hF
        have hM : MWd cs am (va_up M 6 (upd (M 6) s9 (((M 6) s9) + 1)), R, wy, an) u6 := by rw [hu6]; exact hM
        refine lv_aload_n hx hb dX9_turn_66 rfl (lv_at hl 1 rfl) ?_
        refine lv_aload_n hx hb dX9_turn_67 rfl (lv_at hl 1 rfl) ?_
        refine fw_get (v := .ref (am 6)) X gC_ok hF hM.2.1 rfl 6 (by decide) wm_485 rfl dX9_turn_68 ?_
        refine lv_iload hx hb dX9_turn_71 (lv_at hl 0 rfl) ?_
        refine fw_iald X hF (hM.2.2 6 (Or.inl (by decide))) 0 rfl (show vp_in ((M 2) (2 * a + sb b)) 100 by rw [es9]; exact vp_in_nI (by omega) (by decide)) (v := (upd (M 6) s9 (((M 6) s9) + 1)) s9) (by rw [es9, nI_clamp (by omega)] <;> rfl) dX9_turn_73 ?_
        refine lv_aload_n hx hb dX9_turn_74 rfl (lv_at hl 1 rfl) ?_
        refine fw_get (v := .ref (am 5)) X gC_ok hF hM.2.1 rfl 5 (by decide) wm_484 rfl dX9_turn_75 ?_
        refine lv_iload hx hb dX9_turn_78 (lv_at hl 0 rfl) ?_
        refine fw_iald X hF (hM.2.2 5 (Or.inl (by decide))) 0 rfl (show vp_in ((M 2) (2 * a + sb b)) 100 by rw [es9]; exact vp_in_nI (by omega) (by decide)) (v := (M 5) s9) (by rw [es9, nI_clamp (by omega)] <;> rfl) dX9_turn_80 ?_
        refine lv_imul hx hb dX9_turn_81 ?_
        refine lv_aload_n hx hb dX9_turn_82 rfl (lv_at hl 1 rfl) ?_
        refine fw_get (v := .ref (am 7)) X gC_ok hF hM.2.1 rfl 7 (by decide) wm_486 rfl dX9_turn_83 ?_
        refine lv_iload hx hb dX9_turn_86 (lv_at hl 0 rfl) ?_
        refine fw_zald X hF (hM.2.2 7 (Or.inl (by decide))) 1 rfl (show vp_in ((M 2) (2 * a + sb b)) 100 by rw [es9]; exact vp_in_nI (by omega) (by decide)) (v := (M 7) s9) (by rw [es9, nI_clamp (by omega)] <;> rfl) dX9_turn_88 ?_
        refine lv_if_eq (tgt := 96) hx hb dX9_turn_89 (by decide) (fun c89_7 => ?_) (fun c89_7 => ?_)
        · refine lv_iconst (v := 0) hx hb dX9_turn_96 (by decide) ?_
          refine lv_iadd hx hb dX9_turn_97 ?_
          refine fw_put X gC_ok hF hS hM.2.1 rfl 27 (by decide) wm_506 rfl (tf := .int) (by decide +kernel) rfl rfl (Nat.le_of_ble_eq_true rfl) dX9_turn_98 (fun H locs hF hS => ?_)
          obtain ⟨u8, hu8⟩ : ∃ y : fW, y = va_up u6 (am 28) (some (mObj am (va_up M 6 (upd (M 6) s9 (((M 6) s9) + 1)), R, wy, (((upd (M 6) s9 (((M 6) s9) + 1)) s9) * ((M 5) s9)) + 0))) := ⟨_, rfl⟩
          have hM := hM.obj R wy ((((upd (M 6) s9 (((M 6) s9) + 1)) s9) * ((M 5) s9)) + 0)
          have hF : fw_P D cls10 A u8 H := by rw [hu8]; exact hF
          have hM : MWd cs am (va_up M 6 (upd (M 6) s9 (((M 6) s9) + 1)), R, wy, (((upd (M 6) s9 (((M 6) s9) + 1)) s9) * ((M 5) s9)) + 0) u8 := by rw [hu8]; exact hM
          refine fw_vret X hF hS ?_ (Nat.le_of_ble_eq_true rfl) (Nat.le_of_ble_eq_true rfl) dX9_turn_101
          refine Or.inr (Or.inr ⟨(fun z => z.elim c6_1 c30_4), c40_5, s9, hs9, es9, rfl, ?_⟩)
          simpa [mBit, upd, c89_7] using hM
        · refine lv_iconst (v := 1) hx hb dX9_turn_92 (by decide) ?_
          refine lv_goto (tgt := 97) hx hb dX9_turn_93 (by decide) ?_
          refine lv_iadd hx hb dX9_turn_97 ?_
          refine fw_put X gC_ok hF hS hM.2.1 rfl 27 (by decide) wm_506 rfl (tf := .int) (by decide +kernel) rfl rfl (Nat.le_of_ble_eq_true rfl) dX9_turn_98 (fun H locs hF hS => ?_)
          obtain ⟨u9, hu9⟩ : ∃ y : fW, y = va_up u6 (am 28) (some (mObj am (va_up M 6 (upd (M 6) s9 (((M 6) s9) + 1)), R, wy, (((upd (M 6) s9 (((M 6) s9) + 1)) s9) * ((M 5) s9)) + 1))) := ⟨_, rfl⟩
          have hM := hM.obj R wy ((((upd (M 6) s9 (((M 6) s9) + 1)) s9) * ((M 5) s9)) + 1)
          have hF : fw_P D cls10 A u9 H := by rw [hu9]; exact hF
          have hM : MWd cs am (va_up M 6 (upd (M 6) s9 (((M 6) s9) + 1)), R, wy, (((upd (M 6) s9 (((M 6) s9) + 1)) s9) * ((M 5) s9)) + 1) u9 := by rw [hu9]; exact hM
          refine fw_vret X hF hS ?_ (Nat.le_of_ble_eq_true rfl) (Nat.le_of_ble_eq_true rfl) dX9_turn_101
          refine Or.inr (Or.inr ⟨(fun z => z.elim c6_1 c30_4), c40_5, s9, hs9, es9, rfl, ?_⟩)
          simpa [mBit, upd, c89_7] using hM
      · refine lv_aload_n hx hb dX9_turn_43 rfl (lv_at hl 1 rfl) ?_
        refine lv_aload_n hx hb dX9_turn_44 rfl (lv_at hl 1 rfl) ?_
        refine fw_get (v := .ref (am 5)) X gC_ok hF hM.2.1 rfl 5 (by decide) wm_484 rfl dX9_turn_45 ?_
        refine lv_iload hx hb dX9_turn_48 (lv_at hl 0 rfl) ?_
        refine fw_iald X hF (hM.2.2 5 (Or.inl (by decide))) 0 rfl (show vp_in ((M 2) (2 * a + sb b)) 100 by rw [es9]; exact vp_in_nI (by omega) (by decide)) (v := (M 5) s9) (by rw [es9, nI_clamp (by omega)] <;> rfl) dX9_turn_50 ?_
        refine fw_put X gC_ok hF hS hM.2.1 rfl 27 (by decide) wm_506 rfl (tf := .int) (by decide +kernel) rfl rfl (Nat.le_of_ble_eq_true rfl) dX9_turn_51 (fun H locs hF hS => ?_)
        obtain ⟨u10, hu10⟩ : ∃ y : fW, y = va_up w (am 28) (some (mObj am (M, R, wy, (M 5) s9))) := ⟨_, rfl⟩
        have hM := hM.obj R wy ((M 5) s9)
        have hF : fw_P D cls10 A u10 H := by rw [hu10]; exact hF
        have hM : MWd cs am (M, R, wy, (M 5) s9) u10 := by rw [hu10]; exact hM
        refine fw_vret X hF hS ?_ (Nat.le_of_ble_eq_true rfl) (Nat.le_of_ble_eq_true rfl) dX9_turn_54
        exact Or.inr (Or.inl ⟨(fun z => z.elim c6_1 c30_4), c40_5, s9, hs9, es9, rfl, hM⟩)
    · refine lv_aload_n hx hb dX9_turn_33 rfl (lv_at hl 1 rfl) ?_
      refine lv_iconst (v := 1) hx hb dX9_turn_34 (by decide) ?_
      refine fw_callV (As := [.int 1]) (rest := []) X bs_all nw_all mf_X9_fails (c_X9_fails l D cs _ _ am M R wy an hM 1) wm_594 wm_596 wm_11 hF hS rfl hM.2.1 rfl rfl ((⟨⟨Nat.le_of_ble_eq_true rfl, Nat.le_of_ble_eq_true rfl⟩, Nat.le_of_ble_eq_true rfl, Nat.le_of_ble_eq_true rfl⟩)) rfl hl.1 rfl (Nat.le_of_ble_eq_true rfl) dX9_turn_35 (fun v u11 H locs hp hF hS hz1 hk1 hd1 => ?_)
      obtain ⟨hv1, hM⟩ := hp
      subst hv1
      have hM : MWd cs am (M, R, 1, 0) u11 := hM
      refine W.eq (g2 := F0 m 38 ls []) rfl ?_
      refine fw_vret X hF hS ?_ (Nat.le_of_ble_eq_true rfl) (Nat.le_of_ble_eq_true rfl) dX9_turn_38
      exact Or.inl ⟨Or.inr c30_4, rfl, hM⟩
set_option maxHeartbeats 4000000 in
set_option maxRecDepth 100000 in
theorem c_X9_measure (l : Launch) (D : va_G) (cs : Nat → ClassId) (w : fW) (sz : Nat) (am : Nat → Nat) (M : Nat → Nat → Int32) (R : aRe) (hM : MWd cs am (M, R, 0, 0) w) (a : Nat) (b d : Int32) (ha : a < 4) (h8 : lenI (M 8 a)) (h10 : lenI (M 10 a)) (h13 : lenI (M 13 a)) : gM l bs_B nw_B D cls10 (tyl cs) yX9_measure cX9_measure 5 none 1 25 0 0 w sz [.ref (am 28), .int (nI a), .int b, .int d] (fun v w' => v = none ∧ MWd cs am (M, R, (mLong M a b d).1, (mLong M a b d).2) w') := by
  refine gM.of (by decide +kernel) (Nat.le_of_ble_eq_true rfl) (fun p e s m below meth c A ls X hsz hnm hF hS hl => ?_)
  have hx := X.1
  have hb := X.2.1
  have hl : lv_has ls 5 [(0, .ref (am 28)), (1, .int (nI a)), (2, .int b), (3, .int d)] := hl
  refine lv_iload_n hx hb dX9_measure_0 rfl (lv_at hl 2 rfl) ?_
  refine lv_if_ne (tgt := 13) hx hb dX9_measure_1 (by decide) (fun c1_1 => ?_) (fun c1_1 => ?_)
  · refine lv_iload_n hx hb dX9_measure_13 rfl (lv_at hl 2 rfl) ?_
    refine lv_iconst (v := 1) hx hb dX9_measure_14 (by decide) ?_
    refine lv_icmp_ne (tgt := 27) hx hb dX9_measure_15 (by decide) (fun c15_2 => ?_) (fun c15_2 => ?_)
    · refine lv_aload_n hx hb dX9_measure_27 rfl (lv_at hl 0 rfl) ?_
      refine fw_get (v := .ref (am 13)) X gC_ok hF hM.2.1 rfl 13 (by decide) wm_492 rfl dX9_measure_28 ?_
      refine lv_iload_n hx hb dX9_measure_31 rfl (lv_at hl 1 rfl) ?_
      refine fw_iald X hF (hM.2.2 13 (Or.inl (by decide))) 0 rfl (show vp_in (nI a) 4 from vp_in_nI (by omega) (by decide)) (v := (M 13) a) (by rw [nI_clamp (by omega)] <;> rfl) dX9_measure_32 ?_
      refine lv_istore (lv' := [(4, .int ((M 13) a)), (0, .ref (am 28)), (1, .int (nI a)), (2, .int b), (3, .int d)]) hx hb dX9_measure_33 hl (by decide) rfl (fun ls hl => ?_)
      refine lv_iload hx hb dX9_measure_35 (lv_at hl 0 rfl) ?_
      refine lv_iconst (v := (-1)) hx hb dX9_measure_37 (by decide) ?_
      refine lv_icmp_ne (tgt := 49) hx hb dX9_measure_38 (by decide) (fun c38_3 => ?_) (fun c38_3 => ?_)
      · refine lv_iload_n hx hb dX9_measure_49 rfl (lv_at hl 3 rfl) ?_
        refine lv_i2l hx hb dX9_measure_50 rfl ?_
        refine lv_lconst (v := 0) hx hb dX9_measure_51 (by decide) ?_
        refine lv_ldc2 (v := 2) hx hb X.2.2.2.1 (X.2.2.2.2.1 _ wm_626) dX9_measure_52 ?_
        refine fw_callS (As := [.long b.toInt64, .long 0, .long 2]) (rest := []) X bs_all nw_all mf_X9_in (c_X9_in l D cs _ _ b.toInt64 0 2) wm_573 wm_574 hF hS rfl ((⟨⟨Nat.le_of_ble_eq_true rfl, Nat.le_of_ble_eq_true rfl⟩, Nat.le_of_ble_eq_true rfl, Nat.le_of_ble_eq_true rfl⟩)) rfl hl.1 rfl (Nat.le_of_ble_eq_true rfl) dX9_measure_55 (fun v u4 H locs hp hF hS hz1 hk1 hd1 => ?_)
        obtain ⟨rfl, hw1⟩ := hp
        rw [hw1] at hF
        refine W.eq (g2 := F0 m 58 ls [.int (bz (inn b.toInt64 0 2))]) rfl ?_
        refine gx_ifne (tgt := 83) hx hb dX9_measure_58 (by decide) (fun c58_5 => ?_) (fun c58_5 => ?_)
        · refine lv_aload_n hx hb dX9_measure_83 rfl (lv_at hl 1 rfl) ?_
          refine lv_iload_n hx hb dX9_measure_84 rfl (lv_at hl 3 rfl) ?_
          refine lv_i2l hx hb dX9_measure_85 rfl ?_
          refine lv_lconst (v := 0) hx hb dX9_measure_86 (by decide) ?_
          refine lv_ldc2 (v := 2) hx hb X.2.2.2.1 (X.2.2.2.2.1 _ wm_626) dX9_measure_87 ?_
          refine fw_callS (As := [.long b.toInt64, .long 0, .long 2]) (rest := [.ref (am 28)]) X bs_all nw_all mf_X9_in (c_X9_in l D cs _ _ b.toInt64 0 2) wm_573 wm_574 hF hS rfl ((⟨⟨Nat.le_of_ble_eq_true rfl, Nat.le_of_ble_eq_true rfl⟩, Nat.le_of_ble_eq_true rfl, Nat.le_of_ble_eq_true rfl⟩)) rfl hl.1 rfl (Nat.le_of_ble_eq_true rfl) dX9_measure_90 (fun v u6 H locs hp hF hS hz1 hk1 hd1 => ?_)
          obtain ⟨rfl, hw1⟩ := hp
          rw [hw1] at hF
          refine W.eq (g2 := F0 m 93 ls [.int (bz (inn b.toInt64 0 2)), .ref (am 28)]) rfl ?_
          refine gx_ifeq (tgt := 101) hx hb dX9_measure_93 (by decide) (fun c93_7 => ?_) (fun c93_7 => ?_)
          · refine lv_aload_n hx hb dX9_measure_101 rfl (lv_at hl 1 rfl) ?_
            refine fw_get (v := .ref (am 14)) X gC_ok hF hM.2.1 rfl 14 (by decide) wm_493 rfl dX9_measure_102 ?_
            refine lv_iload_n hx hb dX9_measure_105 rfl (lv_at hl 2 rfl) ?_
            refine fw_iald X hF (hM.2.2 14 (Or.inl (by decide))) 0 rfl (show vp_in (nI a) 4 from vp_in_nI (by omega) (by decide)) (v := (M 14) a) (by rw [nI_clamp (by omega)] <;> rfl) dX9_measure_106 ?_
            refine fw_put X gC_ok hF hS hM.2.1 rfl 27 (by decide) wm_506 rfl (tf := .int) (by decide +kernel) rfl rfl (Nat.le_of_ble_eq_true rfl) dX9_measure_107 (fun H locs hF hS => ?_)
            obtain ⟨u8, hu8⟩ : ∃ y : fW, y = va_up w (am 28) (some (mObj am (M, R, 0, (M 14) a))) := ⟨_, rfl⟩
            have hM := hM.obj R 0 ((M 14) a)
            have hF : fw_P D cls10 A u8 H := by rw [hu8]; exact hF
            have hM : MWd cs am (M, R, 0, (M 14) a) u8 := by rw [hu8]; exact hM
            refine fw_vret X hF hS ?_ (Nat.le_of_ble_eq_true rfl) (Nat.le_of_ble_eq_true rfl) dX9_measure_110
            have gc58_5 := c58_5
            rw [in_b2] at gc58_5
            have gc93_7 := c93_7
            rw [in_b2] at gc93_7
            refine ⟨rfl, ?_⟩
            have e9 : mLong M a b d = (0, (M 14) a) := by
              have w9 := wi3 (b := b)
              unfold mLong spLen spRow
              first | (simp_all; done) | (rcases w9.mp (by assumption) with z | z | z <;> simp_all)
            rw [e9]; exact hM
          · refine lv_iload hx hb dX9_measure_96 (lv_at hl 0 rfl) ?_
            refine lv_goto (tgt := 107) hx hb dX9_measure_98 (by decide) ?_
            refine fw_put X gC_ok hF hS hM.2.1 rfl 27 (by decide) wm_506 rfl (tf := .int) (by decide +kernel) rfl rfl (Nat.le_of_ble_eq_true rfl) dX9_measure_107 (fun H locs hF hS => ?_)
            obtain ⟨u9, hu9⟩ : ∃ y : fW, y = va_up w (am 28) (some (mObj am (M, R, 0, (M 13) a))) := ⟨_, rfl⟩
            have hM := hM.obj R 0 ((M 13) a)
            have hF : fw_P D cls10 A u9 H := by rw [hu9]; exact hF
            have hM : MWd cs am (M, R, 0, (M 13) a) u9 := by rw [hu9]; exact hM
            refine fw_vret X hF hS ?_ (Nat.le_of_ble_eq_true rfl) (Nat.le_of_ble_eq_true rfl) dX9_measure_110
            have gc58_5 := c58_5
            rw [in_b2] at gc58_5
            have gc93_7 := c93_7
            rw [in_b2] at gc93_7
            refine ⟨rfl, ?_⟩
            have e9 : mLong M a b d = (0, (M 13) a) := by
              have w9 := wi3 (b := b)
              unfold mLong spLen spRow
              first | (simp_all; done) | (rcases w9.mp (by assumption) with z | z | z <;> simp_all)
            rw [e9]; exact hM
        · refine lv_iload_n hx hb dX9_measure_61 rfl (lv_at hl 4 rfl) ?_
          refine lv_i2l hx hb dX9_measure_62 rfl ?_
          refine lv_lconst (v := 0) hx hb dX9_measure_63 (by decide) ?_
          refine lv_iload hx hb dX9_measure_64 (lv_at hl 0 rfl) ?_
          refine lv_iconst (v := 1) hx hb dX9_measure_66 (by decide) ?_
          refine lv_isub hx hb dX9_measure_67 ?_
          refine lv_i2l hx hb dX9_measure_68 rfl ?_
          refine fw_callS (As := [.long d.toInt64, .long 0, .long ((((M 13) a) - 1).toInt64)]) (rest := []) X bs_all nw_all mf_X9_in (c_X9_in l D cs _ _ d.toInt64 0 ((((M 13) a) - 1).toInt64)) wm_573 wm_574 hF hS rfl ((⟨⟨Nat.le_of_ble_eq_true rfl, Nat.le_of_ble_eq_true rfl⟩, Nat.le_of_ble_eq_true rfl, Nat.le_of_ble_eq_true rfl⟩)) rfl hl.1 rfl (Nat.le_of_ble_eq_true rfl) dX9_measure_69 (fun v u10 H locs hp hF hS hz1 hk1 hd1 => ?_)
          obtain ⟨rfl, hw1⟩ := hp
          rw [hw1] at hF
          refine W.eq (g2 := F0 m 72 ls [.int (bz (inn d.toInt64 0 ((((M 13) a) - 1).toInt64)))]) rfl ?_
          refine gx_ifne (tgt := 83) hx hb dX9_measure_72 (by decide) (fun c72_11 => ?_) (fun c72_11 => ?_)
          · refine lv_aload_n hx hb dX9_measure_83 rfl (lv_at hl 1 rfl) ?_
            refine lv_iload_n hx hb dX9_measure_84 rfl (lv_at hl 3 rfl) ?_
            refine lv_i2l hx hb dX9_measure_85 rfl ?_
            refine lv_lconst (v := 0) hx hb dX9_measure_86 (by decide) ?_
            refine lv_ldc2 (v := 2) hx hb X.2.2.2.1 (X.2.2.2.2.1 _ wm_626) dX9_measure_87 ?_
            refine fw_callS (As := [.long b.toInt64, .long 0, .long 2]) (rest := [.ref (am 28)]) X bs_all nw_all mf_X9_in (c_X9_in l D cs _ _ b.toInt64 0 2) wm_573 wm_574 hF hS rfl ((⟨⟨Nat.le_of_ble_eq_true rfl, Nat.le_of_ble_eq_true rfl⟩, Nat.le_of_ble_eq_true rfl, Nat.le_of_ble_eq_true rfl⟩)) rfl hl.1 rfl (Nat.le_of_ble_eq_true rfl) dX9_measure_90 (fun v u12 H locs hp hF hS hz1 hk1 hd1 => ?_)
            obtain ⟨rfl, hw1⟩ := hp
            rw [hw1] at hF
            refine W.eq (g2 := F0 m 93 ls [.int (bz (inn b.toInt64 0 2)), .ref (am 28)]) rfl ?_
            refine gx_ifeq (tgt := 101) hx hb dX9_measure_93 (by decide) (fun c93_13 => ?_) (fun c93_13 => ?_)
            · refine lv_aload_n hx hb dX9_measure_101 rfl (lv_at hl 1 rfl) ?_
              refine fw_get (v := .ref (am 14)) X gC_ok hF hM.2.1 rfl 14 (by decide) wm_493 rfl dX9_measure_102 ?_
              refine lv_iload_n hx hb dX9_measure_105 rfl (lv_at hl 2 rfl) ?_
              refine fw_iald X hF (hM.2.2 14 (Or.inl (by decide))) 0 rfl (show vp_in (nI a) 4 from vp_in_nI (by omega) (by decide)) (v := (M 14) a) (by rw [nI_clamp (by omega)] <;> rfl) dX9_measure_106 ?_
              refine fw_put X gC_ok hF hS hM.2.1 rfl 27 (by decide) wm_506 rfl (tf := .int) (by decide +kernel) rfl rfl (Nat.le_of_ble_eq_true rfl) dX9_measure_107 (fun H locs hF hS => ?_)
              obtain ⟨u14, hu14⟩ : ∃ y : fW, y = va_up w (am 28) (some (mObj am (M, R, 0, (M 14) a))) := ⟨_, rfl⟩
              have hM := hM.obj R 0 ((M 14) a)
              have hF : fw_P D cls10 A u14 H := by rw [hu14]; exact hF
              have hM : MWd cs am (M, R, 0, (M 14) a) u14 := by rw [hu14]; exact hM
              refine fw_vret X hF hS ?_ (Nat.le_of_ble_eq_true rfl) (Nat.le_of_ble_eq_true rfl) dX9_measure_110
              have gc58_5 := c58_5
              rw [in_b2] at gc58_5
              have gc72_11 := c72_11
              rw [inn_len h13] at gc72_11
              have gc93_13 := c93_13
              rw [in_b2] at gc93_13
              refine ⟨rfl, ?_⟩
              have e9 : mLong M a b d = (0, (M 14) a) := by
                have w9 := wi3 (b := b)
                unfold mLong spLen spRow
                first | (simp_all; done) | (rcases w9.mp (by assumption) with z | z | z <;> simp_all)
              rw [e9]; exact hM
            · refine lv_iload hx hb dX9_measure_96 (lv_at hl 0 rfl) ?_
              refine lv_goto (tgt := 107) hx hb dX9_measure_98 (by decide) ?_
              refine fw_put X gC_ok hF hS hM.2.1 rfl 27 (by decide) wm_506 rfl (tf := .int) (by decide +kernel) rfl rfl (Nat.le_of_ble_eq_true rfl) dX9_measure_107 (fun H locs hF hS => ?_)
              obtain ⟨u15, hu15⟩ : ∃ y : fW, y = va_up w (am 28) (some (mObj am (M, R, 0, (M 13) a))) := ⟨_, rfl⟩
              have hM := hM.obj R 0 ((M 13) a)
              have hF : fw_P D cls10 A u15 H := by rw [hu15]; exact hF
              have hM : MWd cs am (M, R, 0, (M 13) a) u15 := by rw [hu15]; exact hM
              refine fw_vret X hF hS ?_ (Nat.le_of_ble_eq_true rfl) (Nat.le_of_ble_eq_true rfl) dX9_measure_110
              have gc58_5 := c58_5
              rw [in_b2] at gc58_5
              have gc72_11 := c72_11
              rw [inn_len h13] at gc72_11
              have gc93_13 := c93_13
              rw [in_b2] at gc93_13
              refine ⟨rfl, ?_⟩
              have e9 : mLong M a b d = (0, (M 13) a) := by
                have w9 := wi3 (b := b)
                unfold mLong spLen spRow
                first | (simp_all; done) | (rcases w9.mp (by assumption) with z | z | z <;> simp_all)
              rw [e9]; exact hM
          · refine lv_aload_n hx hb dX9_measure_75 rfl (lv_at hl 1 rfl) ?_
            refine lv_iconst (v := 3) hx hb dX9_measure_76 (by decide) ?_
            refine fw_callV (As := [.int 3]) (rest := []) X bs_all nw_all mf_X9_fails (c_X9_fails l D cs _ _ am M R 0 0 hM 3) wm_594 wm_596 wm_11 hF hS rfl hM.2.1 rfl rfl ((⟨⟨Nat.le_of_ble_eq_true rfl, Nat.le_of_ble_eq_true rfl⟩, Nat.le_of_ble_eq_true rfl, Nat.le_of_ble_eq_true rfl⟩)) rfl hl.1 rfl (Nat.le_of_ble_eq_true rfl) dX9_measure_77 (fun v u16 H locs hp hF hS hz1 hk1 hd1 => ?_)
            obtain ⟨hv1, hM⟩ := hp
            subst hv1
            have hM : MWd cs am (M, R, 3, 0) u16 := hM
            refine W.eq (g2 := F0 m 80 ls []) rfl ?_
            refine lv_goto (tgt := 110) hx hb dX9_measure_80 (by decide) ?_
            refine fw_vret X hF hS ?_ (Nat.le_of_ble_eq_true rfl) (Nat.le_of_ble_eq_true rfl) dX9_measure_110
            have gc58_5 := c58_5
            rw [in_b2] at gc58_5
            have gc72_11 := c72_11
            rw [inn_len h13] at gc72_11
            refine ⟨rfl, ?_⟩
            have e9 : mLong M a b d = (3, 0) := by
              have w9 := wi3 (b := b)
              unfold mLong spLen spRow
              first | (simp_all; done) | (rcases w9.mp (by assumption) with z | z | z <;> simp_all)
            rw [e9]; exact hM
      · refine lv_aload_n hx hb dX9_measure_41 rfl (lv_at hl 1 rfl) ?_
        refine lv_iconst (v := 1) hx hb dX9_measure_42 (by decide) ?_
        refine fw_callV (As := [.int 1]) (rest := []) X bs_all nw_all mf_X9_fails (c_X9_fails l D cs _ _ am M R 0 0 hM 1) wm_594 wm_596 wm_11 hF hS rfl hM.2.1 rfl rfl ((⟨⟨Nat.le_of_ble_eq_true rfl, Nat.le_of_ble_eq_true rfl⟩, Nat.le_of_ble_eq_true rfl, Nat.le_of_ble_eq_true rfl⟩)) rfl hl.1 rfl (Nat.le_of_ble_eq_true rfl) dX9_measure_43 (fun v u17 H locs hp hF hS hz1 hk1 hd1 => ?_)
        obtain ⟨hv1, hM⟩ := hp
        subst hv1
        have hM : MWd cs am (M, R, 1, 0) u17 := hM
        refine W.eq (g2 := F0 m 46 ls []) rfl ?_
        refine lv_goto (tgt := 110) hx hb dX9_measure_46 (by decide) ?_
        refine fw_vret X hF hS ?_ (Nat.le_of_ble_eq_true rfl) (Nat.le_of_ble_eq_true rfl) dX9_measure_110
        refine ⟨rfl, ?_⟩
        have e9 : mLong M a b d = (1, 0) := by
          unfold mLong spLen spRow
          first | (simp_all; done) | (rcases w9.mp (by assumption) with z | z | z <;> simp_all)
        rw [e9]; exact hM
    · refine lv_aload_n hx hb dX9_measure_18 rfl (lv_at hl 0 rfl) ?_
      refine fw_get (v := .ref (am 10)) X gC_ok hF hM.2.1 rfl 10 (by decide) wm_489 rfl dX9_measure_19 ?_
      refine lv_iload_n hx hb dX9_measure_22 rfl (lv_at hl 1 rfl) ?_
      refine fw_iald X hF (hM.2.2 10 (Or.inl (by decide))) 0 rfl (show vp_in (nI a) 4 from vp_in_nI (by omega) (by decide)) (v := (M 10) a) (by rw [nI_clamp (by omega)] <;> rfl) dX9_measure_23 ?_
      refine lv_goto (tgt := 33) hx hb dX9_measure_24 (by decide) ?_
      refine lv_istore (lv' := [(4, .int ((M 10) a)), (0, .ref (am 28)), (1, .int (nI a)), (2, .int b), (3, .int d)]) hx hb dX9_measure_33 hl (by decide) rfl (fun ls hl => ?_)
      refine lv_iload hx hb dX9_measure_35 (lv_at hl 0 rfl) ?_
      refine lv_iconst (v := (-1)) hx hb dX9_measure_37 (by decide) ?_
      refine lv_icmp_ne (tgt := 49) hx hb dX9_measure_38 (by decide) (fun c38_18 => ?_) (fun c38_18 => ?_)
      · refine lv_iload_n hx hb dX9_measure_49 rfl (lv_at hl 3 rfl) ?_
        refine lv_i2l hx hb dX9_measure_50 rfl ?_
        refine lv_lconst (v := 0) hx hb dX9_measure_51 (by decide) ?_
        refine lv_ldc2 (v := 2) hx hb X.2.2.2.1 (X.2.2.2.2.1 _ wm_626) dX9_measure_52 ?_
        refine fw_callS (As := [.long b.toInt64, .long 0, .long 2]) (rest := []) X bs_all nw_all mf_X9_in (c_X9_in l D cs _ _ b.toInt64 0 2) wm_573 wm_574 hF hS rfl ((⟨⟨Nat.le_of_ble_eq_true rfl, Nat.le_of_ble_eq_true rfl⟩, Nat.le_of_ble_eq_true rfl, Nat.le_of_ble_eq_true rfl⟩)) rfl hl.1 rfl (Nat.le_of_ble_eq_true rfl) dX9_measure_55 (fun v u19 H locs hp hF hS hz1 hk1 hd1 => ?_)
        obtain ⟨rfl, hw1⟩ := hp
        rw [hw1] at hF
        refine W.eq (g2 := F0 m 58 ls [.int (bz (inn b.toInt64 0 2))]) rfl ?_
        refine gx_ifne (tgt := 83) hx hb dX9_measure_58 (by decide) (fun c58_20 => ?_) (fun c58_20 => ?_)
        · refine lv_aload_n hx hb dX9_measure_83 rfl (lv_at hl 1 rfl) ?_
          refine lv_iload_n hx hb dX9_measure_84 rfl (lv_at hl 3 rfl) ?_
          refine lv_i2l hx hb dX9_measure_85 rfl ?_
          refine lv_lconst (v := 0) hx hb dX9_measure_86 (by decide) ?_
          refine lv_ldc2 (v := 2) hx hb X.2.2.2.1 (X.2.2.2.2.1 _ wm_626) dX9_measure_87 ?_
          refine fw_callS (As := [.long b.toInt64, .long 0, .long 2]) (rest := [.ref (am 28)]) X bs_all nw_all mf_X9_in (c_X9_in l D cs _ _ b.toInt64 0 2) wm_573 wm_574 hF hS rfl ((⟨⟨Nat.le_of_ble_eq_true rfl, Nat.le_of_ble_eq_true rfl⟩, Nat.le_of_ble_eq_true rfl, Nat.le_of_ble_eq_true rfl⟩)) rfl hl.1 rfl (Nat.le_of_ble_eq_true rfl) dX9_measure_90 (fun v u21 H locs hp hF hS hz1 hk1 hd1 => ?_)
          obtain ⟨rfl, hw1⟩ := hp
          rw [hw1] at hF
          refine W.eq (g2 := F0 m 93 ls [.int (bz (inn b.toInt64 0 2)), .ref (am 28)]) rfl ?_
          refine gx_ifeq (tgt := 101) hx hb dX9_measure_93 (by decide) (fun c93_22 => ?_) (fun c93_22 => ?_)
          · refine lv_aload_n hx hb dX9_measure_101 rfl (lv_at hl 1 rfl) ?_
            refine fw_get (v := .ref (am 14)) X gC_ok hF hM.2.1 rfl 14 (by decide) wm_493 rfl dX9_measure_102 ?_
            refine lv_iload_n hx hb dX9_measure_105 rfl (lv_at hl 2 rfl) ?_
            refine fw_iald X hF (hM.2.2 14 (Or.inl (by decide))) 0 rfl (show vp_in (nI a) 4 from vp_in_nI (by omega) (by decide)) (v := (M 14) a) (by rw [nI_clamp (by omega)] <;> rfl) dX9_measure_106 ?_
            refine fw_put X gC_ok hF hS hM.2.1 rfl 27 (by decide) wm_506 rfl (tf := .int) (by decide +kernel) rfl rfl (Nat.le_of_ble_eq_true rfl) dX9_measure_107 (fun H locs hF hS => ?_)
            obtain ⟨u23, hu23⟩ : ∃ y : fW, y = va_up w (am 28) (some (mObj am (M, R, 0, (M 14) a))) := ⟨_, rfl⟩
            have hM := hM.obj R 0 ((M 14) a)
            have hF : fw_P D cls10 A u23 H := by rw [hu23]; exact hF
            have hM : MWd cs am (M, R, 0, (M 14) a) u23 := by rw [hu23]; exact hM
            refine fw_vret X hF hS ?_ (Nat.le_of_ble_eq_true rfl) (Nat.le_of_ble_eq_true rfl) dX9_measure_110
            have gc58_20 := c58_20
            rw [in_b2] at gc58_20
            have gc93_22 := c93_22
            rw [in_b2] at gc93_22
            refine ⟨rfl, ?_⟩
            have e9 : mLong M a b d = (0, (M 14) a) := by
              have w9 := wi3 (b := b)
              unfold mLong spLen spRow
              first | (simp_all; done) | (rcases w9.mp (by assumption) with z | z | z <;> simp_all)
            rw [e9]; exact hM
          · refine lv_iload hx hb dX9_measure_96 (lv_at hl 0 rfl) ?_
            refine lv_goto (tgt := 107) hx hb dX9_measure_98 (by decide) ?_
            refine fw_put X gC_ok hF hS hM.2.1 rfl 27 (by decide) wm_506 rfl (tf := .int) (by decide +kernel) rfl rfl (Nat.le_of_ble_eq_true rfl) dX9_measure_107 (fun H locs hF hS => ?_)
            obtain ⟨u24, hu24⟩ : ∃ y : fW, y = va_up w (am 28) (some (mObj am (M, R, 0, (M 10) a))) := ⟨_, rfl⟩
            have hM := hM.obj R 0 ((M 10) a)
            have hF : fw_P D cls10 A u24 H := by rw [hu24]; exact hF
            have hM : MWd cs am (M, R, 0, (M 10) a) u24 := by rw [hu24]; exact hM
            refine fw_vret X hF hS ?_ (Nat.le_of_ble_eq_true rfl) (Nat.le_of_ble_eq_true rfl) dX9_measure_110
            have gc58_20 := c58_20
            rw [in_b2] at gc58_20
            have gc93_22 := c93_22
            rw [in_b2] at gc93_22
            refine ⟨rfl, ?_⟩
            have e9 : mLong M a b d = (0, (M 10) a) := by
              have w9 := wi3 (b := b)
              unfold mLong spLen spRow
              first | (simp_all; done) | (rcases w9.mp (by assumption) with z | z | z <;> simp_all)
            rw [e9]; exact hM
        · refine lv_iload_n hx hb dX9_measure_61 rfl (lv_at hl 4 rfl) ?_
          refine lv_i2l hx hb dX9_measure_62 rfl ?_
          refine lv_lconst (v := 0) hx hb dX9_measure_63 (by decide) ?_
          refine lv_iload hx hb dX9_measure_64 (lv_at hl 0 rfl) ?_
          refine lv_iconst (v := 1) hx hb dX9_measure_66 (by decide) ?_
          refine lv_isub hx hb dX9_measure_67 ?_
          refine lv_i2l hx hb dX9_measure_68 rfl ?_
          refine fw_callS (As := [.long d.toInt64, .long 0, .long ((((M 10) a) - 1).toInt64)]) (rest := []) X bs_all nw_all mf_X9_in (c_X9_in l D cs _ _ d.toInt64 0 ((((M 10) a) - 1).toInt64)) wm_573 wm_574 hF hS rfl ((⟨⟨Nat.le_of_ble_eq_true rfl, Nat.le_of_ble_eq_true rfl⟩, Nat.le_of_ble_eq_true rfl, Nat.le_of_ble_eq_true rfl⟩)) rfl hl.1 rfl (Nat.le_of_ble_eq_true rfl) dX9_measure_69 (fun v u25 H locs hp hF hS hz1 hk1 hd1 => ?_)
          obtain ⟨rfl, hw1⟩ := hp
          rw [hw1] at hF
          refine W.eq (g2 := F0 m 72 ls [.int (bz (inn d.toInt64 0 ((((M 10) a) - 1).toInt64)))]) rfl ?_
          refine gx_ifne (tgt := 83) hx hb dX9_measure_72 (by decide) (fun c72_26 => ?_) (fun c72_26 => ?_)
          · refine lv_aload_n hx hb dX9_measure_83 rfl (lv_at hl 1 rfl) ?_
            refine lv_iload_n hx hb dX9_measure_84 rfl (lv_at hl 3 rfl) ?_
            refine lv_i2l hx hb dX9_measure_85 rfl ?_
            refine lv_lconst (v := 0) hx hb dX9_measure_86 (by decide) ?_
            refine lv_ldc2 (v := 2) hx hb X.2.2.2.1 (X.2.2.2.2.1 _ wm_626) dX9_measure_87 ?_
            refine fw_callS (As := [.long b.toInt64, .long 0, .long 2]) (rest := [.ref (am 28)]) X bs_all nw_all mf_X9_in (c_X9_in l D cs _ _ b.toInt64 0 2) wm_573 wm_574 hF hS rfl ((⟨⟨Nat.le_of_ble_eq_true rfl, Nat.le_of_ble_eq_true rfl⟩, Nat.le_of_ble_eq_true rfl, Nat.le_of_ble_eq_true rfl⟩)) rfl hl.1 rfl (Nat.le_of_ble_eq_true rfl) dX9_measure_90 (fun v u27 H locs hp hF hS hz1 hk1 hd1 => ?_)
            obtain ⟨rfl, hw1⟩ := hp
            rw [hw1] at hF
            refine W.eq (g2 := F0 m 93 ls [.int (bz (inn b.toInt64 0 2)), .ref (am 28)]) rfl ?_
            refine gx_ifeq (tgt := 101) hx hb dX9_measure_93 (by decide) (fun c93_28 => ?_) (fun c93_28 => ?_)
            · refine lv_aload_n hx hb dX9_measure_101 rfl (lv_at hl 1 rfl) ?_
              refine fw_get (v := .ref (am 14)) X gC_ok hF hM.2.1 rfl 14 (by decide) wm_493 rfl dX9_measure_102 ?_
              refine lv_iload_n hx hb dX9_measure_105 rfl (lv_at hl 2 rfl) ?_
              refine fw_iald X hF (hM.2.2 14 (Or.inl (by decide))) 0 rfl (show vp_in (nI a) 4 from vp_in_nI (by omega) (by decide)) (v := (M 14) a) (by rw [nI_clamp (by omega)] <;> rfl) dX9_measure_106 ?_
              refine fw_put X gC_ok hF hS hM.2.1 rfl 27 (by decide) wm_506 rfl (tf := .int) (by decide +kernel) rfl rfl (Nat.le_of_ble_eq_true rfl) dX9_measure_107 (fun H locs hF hS => ?_)
              obtain ⟨u29, hu29⟩ : ∃ y : fW, y = va_up w (am 28) (some (mObj am (M, R, 0, (M 14) a))) := ⟨_, rfl⟩
              have hM := hM.obj R 0 ((M 14) a)
              have hF : fw_P D cls10 A u29 H := by rw [hu29]; exact hF
              have hM : MWd cs am (M, R, 0, (M 14) a) u29 := by rw [hu29]; exact hM
              refine fw_vret X hF hS ?_ (Nat.le_of_ble_eq_true rfl) (Nat.le_of_ble_eq_true rfl) dX9_measure_110
              have gc58_20 := c58_20
              rw [in_b2] at gc58_20
              have gc72_26 := c72_26
              rw [inn_len h10] at gc72_26
              have gc93_28 := c93_28
              rw [in_b2] at gc93_28
              refine ⟨rfl, ?_⟩
              have e9 : mLong M a b d = (0, (M 14) a) := by
                have w9 := wi3 (b := b)
                unfold mLong spLen spRow
                first | (simp_all; done) | (rcases w9.mp (by assumption) with z | z | z <;> simp_all)
              rw [e9]; exact hM
            · refine lv_iload hx hb dX9_measure_96 (lv_at hl 0 rfl) ?_
              refine lv_goto (tgt := 107) hx hb dX9_measure_98 (by decide) ?_
              refine fw_put X gC_ok hF hS hM.2.1 rfl 27 (by decide) wm_506 rfl (tf := .int) (by decide +kernel) rfl rfl (Nat.le_of_ble_eq_true rfl) dX9_measure_107 (fun H locs hF hS => ?_)
              obtain ⟨u30, hu30⟩ : ∃ y : fW, y = va_up w (am 28) (some (mObj am (M, R, 0, (M 10) a))) := ⟨_, rfl⟩
              have hM := hM.obj R 0 ((M 10) a)
              have hF : fw_P D cls10 A u30 H := by rw [hu30]; exact hF
              have hM : MWd cs am (M, R, 0, (M 10) a) u30 := by rw [hu30]; exact hM
              refine fw_vret X hF hS ?_ (Nat.le_of_ble_eq_true rfl) (Nat.le_of_ble_eq_true rfl) dX9_measure_110
              have gc58_20 := c58_20
              rw [in_b2] at gc58_20
              have gc72_26 := c72_26
              rw [inn_len h10] at gc72_26
              have gc93_28 := c93_28
              rw [in_b2] at gc93_28
              refine ⟨rfl, ?_⟩
              have e9 : mLong M a b d = (0, (M 10) a) := by
                have w9 := wi3 (b := b)
                unfold mLong spLen spRow
                first | (simp_all; done) | (rcases w9.mp (by assumption) with z | z | z <;> simp_all)
              rw [e9]; exact hM
          · refine lv_aload_n hx hb dX9_measure_75 rfl (lv_at hl 1 rfl) ?_
            refine lv_iconst (v := 3) hx hb dX9_measure_76 (by decide) ?_
            refine fw_callV (As := [.int 3]) (rest := []) X bs_all nw_all mf_X9_fails (c_X9_fails l D cs _ _ am M R 0 0 hM 3) wm_594 wm_596 wm_11 hF hS rfl hM.2.1 rfl rfl ((⟨⟨Nat.le_of_ble_eq_true rfl, Nat.le_of_ble_eq_true rfl⟩, Nat.le_of_ble_eq_true rfl, Nat.le_of_ble_eq_true rfl⟩)) rfl hl.1 rfl (Nat.le_of_ble_eq_true rfl) dX9_measure_77 (fun v u31 H locs hp hF hS hz1 hk1 hd1 => ?_)
            obtain ⟨hv1, hM⟩ := hp
            subst hv1
            have hM : MWd cs am (M, R, 3, 0) u31 := hM
            refine W.eq (g2 := F0 m 80 ls []) rfl ?_
            refine lv_goto (tgt := 110) hx hb dX9_measure_80 (by decide) ?_
            refine fw_vret X hF hS ?_ (Nat.le_of_ble_eq_true rfl) (Nat.le_of_ble_eq_true rfl) dX9_measure_110
            have gc58_20 := c58_20
            rw [in_b2] at gc58_20
            have gc72_26 := c72_26
            rw [inn_len h10] at gc72_26
            refine ⟨rfl, ?_⟩
            have e9 : mLong M a b d = (3, 0) := by
              have w9 := wi3 (b := b)
              unfold mLong spLen spRow
              first | (simp_all; done) | (rcases w9.mp (by assumption) with z | z | z <;> simp_all)
            rw [e9]; exact hM
      · refine lv_aload_n hx hb dX9_measure_41 rfl (lv_at hl 1 rfl) ?_
        refine lv_iconst (v := 1) hx hb dX9_measure_42 (by decide) ?_
        refine fw_callV (As := [.int 1]) (rest := []) X bs_all nw_all mf_X9_fails (c_X9_fails l D cs _ _ am M R 0 0 hM 1) wm_594 wm_596 wm_11 hF hS rfl hM.2.1 rfl rfl ((⟨⟨Nat.le_of_ble_eq_true rfl, Nat.le_of_ble_eq_true rfl⟩, Nat.le_of_ble_eq_true rfl, Nat.le_of_ble_eq_true rfl⟩)) rfl hl.1 rfl (Nat.le_of_ble_eq_true rfl) dX9_measure_43 (fun v u32 H locs hp hF hS hz1 hk1 hd1 => ?_)
        obtain ⟨hv1, hM⟩ := hp
        subst hv1
        have hM : MWd cs am (M, R, 1, 0) u32 := hM
        refine W.eq (g2 := F0 m 46 ls []) rfl ?_
        refine lv_goto (tgt := 110) hx hb dX9_measure_46 (by decide) ?_
        refine fw_vret X hF hS ?_ (Nat.le_of_ble_eq_true rfl) (Nat.le_of_ble_eq_true rfl) dX9_measure_110
        refine ⟨rfl, ?_⟩
        have e9 : mLong M a b d = (1, 0) := by
          unfold mLong spLen spRow
          first | (simp_all; done) | (rcases w9.mp (by assumption) with z | z | z <;> simp_all)
        rw [e9]; exact hM
  · refine lv_aload_n hx hb dX9_measure_4 rfl (lv_at hl 0 rfl) ?_
    refine fw_get (v := .ref (am 8)) X gC_ok hF hM.2.1 rfl 8 (by decide) wm_487 rfl dX9_measure_5 ?_
    refine lv_iload_n hx hb dX9_measure_8 rfl (lv_at hl 1 rfl) ?_
    refine fw_iald X hF (hM.2.2 8 (Or.inl (by decide))) 0 rfl (show vp_in (nI a) 4 from vp_in_nI (by omega) (by decide)) (v := (M 8) a) (by rw [nI_clamp (by omega)] <;> rfl) dX9_measure_9 ?_
    refine lv_goto (tgt := 33) hx hb dX9_measure_10 (by decide) ?_
    refine lv_istore (lv' := [(4, .int ((M 8) a)), (0, .ref (am 28)), (1, .int (nI a)), (2, .int b), (3, .int d)]) hx hb dX9_measure_33 hl (by decide) rfl (fun ls hl => ?_)
    refine lv_iload hx hb dX9_measure_35 (lv_at hl 0 rfl) ?_
    refine lv_iconst (v := (-1)) hx hb dX9_measure_37 (by decide) ?_
    refine lv_icmp_ne (tgt := 49) hx hb dX9_measure_38 (by decide) (fun c38_33 => ?_) (fun c38_33 => ?_)
    · refine lv_iload_n hx hb dX9_measure_49 rfl (lv_at hl 3 rfl) ?_
      refine lv_i2l hx hb dX9_measure_50 rfl ?_
      refine lv_lconst (v := 0) hx hb dX9_measure_51 (by decide) ?_
      refine lv_ldc2 (v := 2) hx hb X.2.2.2.1 (X.2.2.2.2.1 _ wm_626) dX9_measure_52 ?_
      refine fw_callS (As := [.long b.toInt64, .long 0, .long 2]) (rest := []) X bs_all nw_all mf_X9_in (c_X9_in l D cs _ _ b.toInt64 0 2) wm_573 wm_574 hF hS rfl ((⟨⟨Nat.le_of_ble_eq_true rfl, Nat.le_of_ble_eq_true rfl⟩, Nat.le_of_ble_eq_true rfl, Nat.le_of_ble_eq_true rfl⟩)) rfl hl.1 rfl (Nat.le_of_ble_eq_true rfl) dX9_measure_55 (fun v u34 H locs hp hF hS hz1 hk1 hd1 => ?_)
      obtain ⟨rfl, hw1⟩ := hp
      rw [hw1] at hF
      refine W.eq (g2 := F0 m 58 ls [.int (bz (inn b.toInt64 0 2))]) rfl ?_
      refine gx_ifne (tgt := 83) hx hb dX9_measure_58 (by decide) (fun c58_35 => ?_) (fun c58_35 => ?_)
      · refine lv_aload_n hx hb dX9_measure_83 rfl (lv_at hl 1 rfl) ?_
        refine lv_iload_n hx hb dX9_measure_84 rfl (lv_at hl 3 rfl) ?_
        refine lv_i2l hx hb dX9_measure_85 rfl ?_
        refine lv_lconst (v := 0) hx hb dX9_measure_86 (by decide) ?_
        refine lv_ldc2 (v := 2) hx hb X.2.2.2.1 (X.2.2.2.2.1 _ wm_626) dX9_measure_87 ?_
        refine fw_callS (As := [.long b.toInt64, .long 0, .long 2]) (rest := [.ref (am 28)]) X bs_all nw_all mf_X9_in (c_X9_in l D cs _ _ b.toInt64 0 2) wm_573 wm_574 hF hS rfl ((⟨⟨Nat.le_of_ble_eq_true rfl, Nat.le_of_ble_eq_true rfl⟩, Nat.le_of_ble_eq_true rfl, Nat.le_of_ble_eq_true rfl⟩)) rfl hl.1 rfl (Nat.le_of_ble_eq_true rfl) dX9_measure_90 (fun v u36 H locs hp hF hS hz1 hk1 hd1 => ?_)
        obtain ⟨rfl, hw1⟩ := hp
        rw [hw1] at hF
        refine W.eq (g2 := F0 m 93 ls [.int (bz (inn b.toInt64 0 2)), .ref (am 28)]) rfl ?_
        refine gx_ifeq (tgt := 101) hx hb dX9_measure_93 (by decide) (fun c93_37 => ?_) (fun c93_37 => ?_)
        · refine lv_aload_n hx hb dX9_measure_101 rfl (lv_at hl 1 rfl) ?_
          refine fw_get (v := .ref (am 14)) X gC_ok hF hM.2.1 rfl 14 (by decide) wm_493 rfl dX9_measure_102 ?_
          refine lv_iload_n hx hb dX9_measure_105 rfl (lv_at hl 2 rfl) ?_
          refine fw_iald X hF (hM.2.2 14 (Or.inl (by decide))) 0 rfl (show vp_in (nI a) 4 from vp_in_nI (by omega) (by decide)) (v := (M 14) a) (by rw [nI_clamp (by omega)] <;> rfl) dX9_measure_106 ?_
          refine fw_put X gC_ok hF hS hM.2.1 rfl 27 (by decide) wm_506 rfl (tf := .int) (by decide +kernel) rfl rfl (Nat.le_of_ble_eq_true rfl) dX9_measure_107 (fun H locs hF hS => ?_)
          obtain ⟨u38, hu38⟩ : ∃ y : fW, y = va_up w (am 28) (some (mObj am (M, R, 0, (M 14) a))) := ⟨_, rfl⟩
          have hM := hM.obj R 0 ((M 14) a)
          have hF : fw_P D cls10 A u38 H := by rw [hu38]; exact hF
          have hM : MWd cs am (M, R, 0, (M 14) a) u38 := by rw [hu38]; exact hM
          refine fw_vret X hF hS ?_ (Nat.le_of_ble_eq_true rfl) (Nat.le_of_ble_eq_true rfl) dX9_measure_110
          have gc58_35 := c58_35
          rw [in_b2] at gc58_35
          have gc93_37 := c93_37
          rw [in_b2] at gc93_37
          refine ⟨rfl, ?_⟩
          have e9 : mLong M a b d = (0, (M 14) a) := by
            have w9 := wi3 (b := b)
            unfold mLong spLen spRow
            first | (simp_all; done) | (rcases w9.mp (by assumption) with z | z | z <;> simp_all)
          rw [e9]; exact hM
        · refine lv_iload hx hb dX9_measure_96 (lv_at hl 0 rfl) ?_
          refine lv_goto (tgt := 107) hx hb dX9_measure_98 (by decide) ?_
          refine fw_put X gC_ok hF hS hM.2.1 rfl 27 (by decide) wm_506 rfl (tf := .int) (by decide +kernel) rfl rfl (Nat.le_of_ble_eq_true rfl) dX9_measure_107 (fun H locs hF hS => ?_)
          obtain ⟨u39, hu39⟩ : ∃ y : fW, y = va_up w (am 28) (some (mObj am (M, R, 0, (M 8) a))) := ⟨_, rfl⟩
          have hM := hM.obj R 0 ((M 8) a)
          have hF : fw_P D cls10 A u39 H := by rw [hu39]; exact hF
          have hM : MWd cs am (M, R, 0, (M 8) a) u39 := by rw [hu39]; exact hM
          refine fw_vret X hF hS ?_ (Nat.le_of_ble_eq_true rfl) (Nat.le_of_ble_eq_true rfl) dX9_measure_110
          have gc58_35 := c58_35
          rw [in_b2] at gc58_35
          have gc93_37 := c93_37
          rw [in_b2] at gc93_37
          refine ⟨rfl, ?_⟩
          have e9 : mLong M a b d = (0, (M 8) a) := by
            have w9 := wi3 (b := b)
            unfold mLong spLen spRow
            first | (simp_all; done) | (rcases w9.mp (by assumption) with z | z | z <;> simp_all)
          rw [e9]; exact hM
      · refine lv_iload_n hx hb dX9_measure_61 rfl (lv_at hl 4 rfl) ?_
        refine lv_i2l hx hb dX9_measure_62 rfl ?_
        refine lv_lconst (v := 0) hx hb dX9_measure_63 (by decide) ?_
        refine lv_iload hx hb dX9_measure_64 (lv_at hl 0 rfl) ?_
        refine lv_iconst (v := 1) hx hb dX9_measure_66 (by decide) ?_
        refine lv_isub hx hb dX9_measure_67 ?_
        refine lv_i2l hx hb dX9_measure_68 rfl ?_
        refine fw_callS (As := [.long d.toInt64, .long 0, .long ((((M 8) a) - 1).toInt64)]) (rest := []) X bs_all nw_all mf_X9_in (c_X9_in l D cs _ _ d.toInt64 0 ((((M 8) a) - 1).toInt64)) wm_573 wm_574 hF hS rfl ((⟨⟨Nat.le_of_ble_eq_true rfl, Nat.le_of_ble_eq_true rfl⟩, Nat.le_of_ble_eq_true rfl, Nat.le_of_ble_eq_true rfl⟩)) rfl hl.1 rfl (Nat.le_of_ble_eq_true rfl) dX9_measure_69 (fun v u40 H locs hp hF hS hz1 hk1 hd1 => ?_)
        obtain ⟨rfl, hw1⟩ := hp
        rw [hw1] at hF
        refine W.eq (g2 := F0 m 72 ls [.int (bz (inn d.toInt64 0 ((((M 8) a) - 1).toInt64)))]) rfl ?_
        refine gx_ifne (tgt := 83) hx hb dX9_measure_72 (by decide) (fun c72_41 => ?_) (fun c72_41 => ?_)
        · refine lv_aload_n hx hb dX9_measure_83 rfl (lv_at hl 1 rfl) ?_
          refine lv_iload_n hx hb dX9_measure_84 rfl (lv_at hl 3 rfl) ?_
          refine lv_i2l hx hb dX9_measure_85 rfl ?_
          refine lv_lconst (v := 0) hx hb dX9_measure_86 (by decide) ?_
          refine lv_ldc2 (v := 2) hx hb X.2.2.2.1 (X.2.2.2.2.1 _ wm_626) dX9_measure_87 ?_
          refine fw_callS (As := [.long b.toInt64, .long 0, .long 2]) (rest := [.ref (am 28)]) X bs_all nw_all mf_X9_in (c_X9_in l D cs _ _ b.toInt64 0 2) wm_573 wm_574 hF hS rfl ((⟨⟨Nat.le_of_ble_eq_true rfl, Nat.le_of_ble_eq_true rfl⟩, Nat.le_of_ble_eq_true rfl, Nat.le_of_ble_eq_true rfl⟩)) rfl hl.1 rfl (Nat.le_of_ble_eq_true rfl) dX9_measure_90 (fun v u42 H locs hp hF hS hz1 hk1 hd1 => ?_)
          obtain ⟨rfl, hw1⟩ := hp
          rw [hw1] at hF
          refine W.eq (g2 := F0 m 93 ls [.int (bz (inn b.toInt64 0 2)), .ref (am 28)]) rfl ?_
          refine gx_ifeq (tgt := 101) hx hb dX9_measure_93 (by decide) (fun c93_43 => ?_) (fun c93_43 => ?_)
          · refine lv_aload_n hx hb dX9_measure_101 rfl (lv_at hl 1 rfl) ?_
            refine fw_get (v := .ref (am 14)) X gC_ok hF hM.2.1 rfl 14 (by decide) wm_493 rfl dX9_measure_102 ?_
            refine lv_iload_n hx hb dX9_measure_105 rfl (lv_at hl 2 rfl) ?_
            refine fw_iald X hF (hM.2.2 14 (Or.inl (by decide))) 0 rfl (show vp_in (nI a) 4 from vp_in_nI (by omega) (by decide)) (v := (M 14) a) (by rw [nI_clamp (by omega)] <;> rfl) dX9_measure_106 ?_
            refine fw_put X gC_ok hF hS hM.2.1 rfl 27 (by decide) wm_506 rfl (tf := .int) (by decide +kernel) rfl rfl (Nat.le_of_ble_eq_true rfl) dX9_measure_107 (fun H locs hF hS => ?_)
            obtain ⟨u44, hu44⟩ : ∃ y : fW, y = va_up w (am 28) (some (mObj am (M, R, 0, (M 14) a))) := ⟨_, rfl⟩
            have hM := hM.obj R 0 ((M 14) a)
            have hF : fw_P D cls10 A u44 H := by rw [hu44]; exact hF
            have hM : MWd cs am (M, R, 0, (M 14) a) u44 := by rw [hu44]; exact hM
            refine fw_vret X hF hS ?_ (Nat.le_of_ble_eq_true rfl) (Nat.le_of_ble_eq_true rfl) dX9_measure_110
            have gc58_35 := c58_35
            rw [in_b2] at gc58_35
            have gc72_41 := c72_41
            rw [inn_len h8] at gc72_41
            have gc93_43 := c93_43
            rw [in_b2] at gc93_43
            refine ⟨rfl, ?_⟩
            have e9 : mLong M a b d = (0, (M 14) a) := by
              have w9 := wi3 (b := b)
              unfold mLong spLen spRow
              first | (simp_all; done) | (rcases w9.mp (by assumption) with z | z | z <;> simp_all)
            rw [e9]; exact hM
          · refine lv_iload hx hb dX9_measure_96 (lv_at hl 0 rfl) ?_
            refine lv_goto (tgt := 107) hx hb dX9_measure_98 (by decide) ?_
            refine fw_put X gC_ok hF hS hM.2.1 rfl 27 (by decide) wm_506 rfl (tf := .int) (by decide +kernel) rfl rfl (Nat.le_of_ble_eq_true rfl) dX9_measure_107 (fun H locs hF hS => ?_)
            obtain ⟨u45, hu45⟩ : ∃ y : fW, y = va_up w (am 28) (some (mObj am (M, R, 0, (M 8) a))) := ⟨_, rfl⟩
            have hM := hM.obj R 0 ((M 8) a)
            have hF : fw_P D cls10 A u45 H := by rw [hu45]; exact hF
            have hM : MWd cs am (M, R, 0, (M 8) a) u45 := by rw [hu45]; exact hM
            refine fw_vret X hF hS ?_ (Nat.le_of_ble_eq_true rfl) (Nat.le_of_ble_eq_true rfl) dX9_measure_110
            have gc58_35 := c58_35
            rw [in_b2] at gc58_35
            have gc72_41 := c72_41
            rw [inn_len h8] at gc72_41
            have gc93_43 := c93_43
            rw [in_b2] at gc93_43
            refine ⟨rfl, ?_⟩
            have e9 : mLong M a b d = (0, (M 8) a) := by
              have w9 := wi3 (b := b)
              unfold mLong spLen spRow
              first | (simp_all; done) | (rcases w9.mp (by assumption) with z | z | z <;> simp_all)
            rw [e9]; exact hM
        · refine lv_aload_n hx hb dX9_measure_75 rfl (lv_at hl 1 rfl) ?_
          refine lv_iconst (v := 3) hx hb dX9_measure_76 (by decide) ?_
          refine fw_callV (As := [.int 3]) (rest := []) X bs_all nw_all mf_X9_fails (c_X9_fails l D cs _ _ am M R 0 0 hM 3) wm_594 wm_596 wm_11 hF hS rfl hM.2.1 rfl rfl ((⟨⟨Nat.le_of_ble_eq_true rfl, Nat.le_of_ble_eq_true rfl⟩, Nat.le_of_ble_eq_true rfl, Nat.le_of_ble_eq_true rfl⟩)) rfl hl.1 rfl (Nat.le_of_ble_eq_true rfl) dX9_measure_77 (fun v u46 H locs hp hF hS hz1 hk1 hd1 => ?_)
          obtain ⟨hv1, hM⟩ := hp
          subst hv1
          have hM : MWd cs am (M, R, 3, 0) u46 := hM
          refine W.eq (g2 := F0 m 80 ls []) rfl ?_
          refine lv_goto (tgt := 110) hx hb dX9_measure_80 (by decide) ?_
          refine fw_vret X hF hS ?_ (Nat.le_of_ble_eq_true rfl) (Nat.le_of_ble_eq_true rfl) dX9_measure_110
          have gc58_35 := c58_35
          rw [in_b2] at gc58_35
          have gc72_41 := c72_41
          rw [inn_len h8] at gc72_41
          refine ⟨rfl, ?_⟩
          have e9 : mLong M a b d = (3, 0) := by
            have w9 := wi3 (b := b)
            unfold mLong spLen spRow
            first | (simp_all; done) | (rcases w9.mp (by assumption) with z | z | z <;> simp_all)
          rw [e9]; exact hM
    · refine lv_aload_n hx hb dX9_measure_41 rfl (lv_at hl 1 rfl) ?_
      refine lv_iconst (v := 1) hx hb dX9_measure_42 (by decide) ?_
      refine fw_callV (As := [.int 1]) (rest := []) X bs_all nw_all mf_X9_fails (c_X9_fails l D cs _ _ am M R 0 0 hM 1) wm_594 wm_596 wm_11 hF hS rfl hM.2.1 rfl rfl ((⟨⟨Nat.le_of_ble_eq_true rfl, Nat.le_of_ble_eq_true rfl⟩, Nat.le_of_ble_eq_true rfl, Nat.le_of_ble_eq_true rfl⟩)) rfl hl.1 rfl (Nat.le_of_ble_eq_true rfl) dX9_measure_43 (fun v u47 H locs hp hF hS hz1 hk1 hd1 => ?_)
      obtain ⟨hv1, hM⟩ := hp
      subst hv1
      have hM : MWd cs am (M, R, 1, 0) u47 := hM
      refine W.eq (g2 := F0 m 46 ls []) rfl ?_
      refine lv_goto (tgt := 110) hx hb dX9_measure_46 (by decide) ?_
      refine fw_vret X hF hS ?_ (Nat.le_of_ble_eq_true rfl) (Nat.le_of_ble_eq_true rfl) dX9_measure_110
      refine ⟨rfl, ?_⟩
      have e9 : mLong M a b d = (1, 0) := by
        unfold mLong spLen spRow
        first | (simp_all; done) | (rcases w9.mp (by assumption) with z | z | z <;> simp_all)
      rw [e9]; exact hM
set_option maxHeartbeats 4000000 in
set_option maxRecDepth 100000 in
theorem c_X9_has (l : Launch) (D : va_G) (cs : Nat → ClassId) (w : fW) (sz : Nat) (am : Nat → Nat) (M : Nat → Nat → Int32) (R : aRe) (hM : MWd cs am (M, R, 0, 0) w) (n i : Int32) (hn : lenI n) : gM l bs_B nw_B D cls10 (tyl cs) yX9_has cX9_has 3 (some .boolean) 1 25 0 0 w sz [.ref (am 28), .int n, .int i] (fun v w' => (n = -1 ∧ v = some (.int 0) ∧ MWd cs am (M, R, 1, 0) w') ∨ (¬ n = -1 ∧ wi i n = false ∧ v = some (.int 0) ∧ MWd cs am (M, R, 3, 0) w') ∨ (¬ n = -1 ∧ wi i n = true ∧ v = some (.int 1) ∧ MWd cs am (M, R, 0, 0) w')) := by
  refine gM.of (by decide +kernel) (Nat.le_of_ble_eq_true rfl) (fun p e s m below meth c A ls X hsz hnm hF hS hl => ?_)
  have hx := X.1
  have hb := X.2.1
  have hl : lv_has ls 3 [(0, .ref (am 28)), (1, .int n), (2, .int i)] := hl
  refine lv_iload_n hx hb dX9_has_0 rfl (lv_at hl 1 rfl) ?_
  refine lv_iconst (v := (-1)) hx hb dX9_has_1 (by decide) ?_
  refine lv_icmp_ne (tgt := 13) hx hb dX9_has_2 (by decide) (fun c2_1 => ?_) (fun c2_1 => ?_)
  · refine lv_iload_n hx hb dX9_has_13 rfl (lv_at hl 2 rfl) ?_
    refine lv_i2l hx hb dX9_has_14 rfl ?_
    refine lv_lconst (v := 0) hx hb dX9_has_15 (by decide) ?_
    refine lv_iload_n hx hb dX9_has_16 rfl (lv_at hl 1 rfl) ?_
    refine lv_iconst (v := 1) hx hb dX9_has_17 (by decide) ?_
    refine lv_isub hx hb dX9_has_18 ?_
    refine lv_i2l hx hb dX9_has_19 rfl ?_
    refine fw_callS (As := [.long i.toInt64, .long 0, .long ((n - 1).toInt64)]) (rest := []) X bs_all nw_all mf_X9_in (c_X9_in l D cs _ _ i.toInt64 0 ((n - 1).toInt64)) wm_573 wm_574 hF hS rfl ((⟨⟨Nat.le_of_ble_eq_true rfl, Nat.le_of_ble_eq_true rfl⟩, Nat.le_of_ble_eq_true rfl, Nat.le_of_ble_eq_true rfl⟩)) rfl hl.1 rfl (Nat.le_of_ble_eq_true rfl) dX9_has_20 (fun v u2 H locs hp hF hS hz1 hk1 hd1 => ?_)
    obtain ⟨rfl, hw1⟩ := hp
    rw [hw1] at hF
    refine W.eq (g2 := F0 m 23 ls [.int (bz (inn i.toInt64 0 ((n - 1).toInt64)))]) rfl ?_
    refine gx_ifne (tgt := 31) hx hb dX9_has_23 (by decide) (fun c23_3 => ?_) (fun c23_3 => ?_)
    · refine lv_aload_n hx hb dX9_has_31 rfl (lv_at hl 0 rfl) ?_
      refine fw_get (v := .int 0) X gC_ok hF hM.2.1 rfl 26 (by decide) wm_505 rfl dX9_has_32 ?_
      refine lv_if_ne (tgt := 42) hx hb dX9_has_35 (by decide) (fun h => absurd h (by decide)) (fun _ => ?_)
      refine lv_iconst (v := 1) hx hb dX9_has_38 (by decide) ?_
      refine lv_goto (tgt := 43) hx hb dX9_has_39 (by decide) ?_
      refine fw_zret X hF hS rfl ?_ (Nat.le_of_ble_eq_true rfl) (Nat.le_of_ble_eq_true rfl) dX9_has_43
      rw [inn_len hn] at c23_3
      exact Or.inr (Or.inr ⟨c2_1, c23_3, rfl, hM⟩)
    · refine lv_aload_n hx hb dX9_has_26 rfl (lv_at hl 0 rfl) ?_
      refine lv_iconst (v := 3) hx hb dX9_has_27 (by decide) ?_
      refine fw_callV (As := [.int 3]) (rest := []) X bs_all nw_all mf_X9_fails (c_X9_fails l D cs _ _ am M R 0 0 hM 3) wm_594 wm_596 wm_11 hF hS rfl hM.2.1 rfl rfl ((⟨⟨Nat.le_of_ble_eq_true rfl, Nat.le_of_ble_eq_true rfl⟩, Nat.le_of_ble_eq_true rfl, Nat.le_of_ble_eq_true rfl⟩)) rfl hl.1 rfl (Nat.le_of_ble_eq_true rfl) dX9_has_28 (fun v u5 H locs hp hF hS hz1 hk1 hd1 => ?_)
      obtain ⟨hv1, hM⟩ := hp
      subst hv1
      have hM : MWd cs am (M, R, 3, 0) u5 := hM
      refine W.eq (g2 := F0 m 31 ls []) rfl ?_
      refine lv_aload_n hx hb dX9_has_31 rfl (lv_at hl 0 rfl) ?_
      refine fw_get (v := .int 3) X gC_ok hF hM.2.1 rfl 26 (by decide) wm_505 rfl dX9_has_32 ?_
      refine lv_if_ne (tgt := 42) hx hb dX9_has_35 (by decide) (fun _ => ?_) (fun h => absurd h (by decide))
      refine lv_iconst (v := 0) hx hb dX9_has_42 (by decide) ?_
      refine fw_zret X hF hS rfl ?_ (Nat.le_of_ble_eq_true rfl) (Nat.le_of_ble_eq_true rfl) dX9_has_43
      rw [inn_len hn] at c23_3
      exact Or.inr (Or.inl ⟨c2_1, c23_3, rfl, hM⟩)
  · refine lv_aload_n hx hb dX9_has_5 rfl (lv_at hl 0 rfl) ?_
    refine lv_iconst (v := 1) hx hb dX9_has_6 (by decide) ?_
    refine fw_callV (As := [.int 1]) (rest := []) X bs_all nw_all mf_X9_fails (c_X9_fails l D cs _ _ am M R 0 0 hM 1) wm_594 wm_596 wm_11 hF hS rfl hM.2.1 rfl rfl ((⟨⟨Nat.le_of_ble_eq_true rfl, Nat.le_of_ble_eq_true rfl⟩, Nat.le_of_ble_eq_true rfl, Nat.le_of_ble_eq_true rfl⟩)) rfl hl.1 rfl (Nat.le_of_ble_eq_true rfl) dX9_has_7 (fun v u7 H locs hp hF hS hz1 hk1 hd1 => ?_)
    obtain ⟨hv1, hM⟩ := hp
    subst hv1
    have hM : MWd cs am (M, R, 1, 0) u7 := hM
    refine W.eq (g2 := F0 m 10 ls []) rfl ?_
    refine lv_goto (tgt := 31) hx hb dX9_has_10 (by decide) ?_
    refine lv_aload_n hx hb dX9_has_31 rfl (lv_at hl 0 rfl) ?_
    refine fw_get (v := .int 1) X gC_ok hF hM.2.1 rfl 26 (by decide) wm_505 rfl dX9_has_32 ?_
    refine lv_if_ne (tgt := 42) hx hb dX9_has_35 (by decide) (fun _ => ?_) (fun h => absurd h (by decide))
    refine lv_iconst (v := 0) hx hb dX9_has_42 (by decide) ?_
    refine fw_zret X hF hS rfl ?_ (Nat.le_of_ble_eq_true rfl) (Nat.le_of_ble_eq_true rfl) dX9_has_43
    exact Or.inl ⟨c2_1, rfl, hM⟩
set_option maxHeartbeats 4000000 in
set_option maxRecDepth 100000 in
theorem c_X9_hang (l : Launch) (D : va_G) (cs : Nat → ClassId) (w : fW) (sz : Nat) (am : Nat → Nat) (M : Nat → Nat → Int32) (R : aRe) (hM : MWd cs am (M, R, 0, 0) w) (a : Nat) (b : Int32) (d : Nat) (ha : a < 4) (hd : d < 4) (h10 : lenI (M 10 a)) (hsl : ¬ M 2 (2 * d) = -1 → ∃ s9, s9 < 100 ∧ M 2 (2 * d) = nI s9) : gM l bs_B nw_B D cls10 (tyl cs) yX9_hang cX9_hang 5 none 2 47 0 0 w sz [.ref (am 28), .int (nI a), .int b, .int (nI d)] (fun v w' => ((M 10 a = -1 ∨ M 0 d = 0) ∧ v = none ∧ MWd cs am (M, R, 1, 0) w') ∨ (¬ (M 10 a = -1 ∨ M 0 d = 0) ∧ wi b (M 10 a) = false ∧ v = none ∧ MWd cs am (M, R, 3, 0) w') ∨ (¬ (M 10 a = -1 ∨ M 0 d = 0) ∧ wi b (M 10 a) = true ∧ (¬ M 11 a = 0 ∧ ∃ s9, s9 < 100 ∧ M 2 (2 * d) = nI s9 ∧ M 7 s9 = 0) ∧ v = none ∧ MWd cs am (M, R, 4, 0) w') ∨ (¬ (M 10 a = -1 ∨ M 0 d = 0) ∧ wi b (M 10 a) = true ∧ ¬ (¬ M 11 a = 0 ∧ ∃ s9, s9 < 100 ∧ M 2 (2 * d) = nI s9 ∧ M 7 s9 = 0) ∧ v = none ∧ MWd cs am (va_up M 12 (upd (M 12) (20 * a + ix b) (M 2 (2 * d))), R, 0, 1) w')) := by
  refine gM.of (by decide +kernel) (Nat.le_of_ble_eq_true rfl) (fun p e s m below meth c A ls X hsz hnm hF hS hl => ?_)
  have hx := X.1
  have hb := X.2.1
  have hl : lv_has ls 5 [(0, .ref (am 28)), (1, .int (nI a)), (2, .int b), (3, .int (nI d))] := hl
  refine lv_aload_n hx hb dX9_hang_0 rfl (lv_at hl 0 rfl) ?_
  refine fw_get (v := .ref (am 10)) X gC_ok hF hM.2.1 rfl 10 (by decide) wm_489 rfl dX9_hang_1 ?_
  refine lv_iload_n hx hb dX9_hang_4 rfl (lv_at hl 1 rfl) ?_
  refine fw_iald X hF (hM.2.2 10 (Or.inl (by decide))) 0 rfl (show vp_in (nI a) 4 from vp_in_nI (by omega) (by decide)) (v := (M 10) a) (by rw [nI_clamp (by omega)] <;> rfl) dX9_hang_5 ?_
  refine lv_iconst (v := (-1)) hx hb dX9_hang_6 (by decide) ?_
  refine lv_icmp_eq (tgt := 19) hx hb dX9_hang_7 (by decide) (fun c7_1 => ?_) (fun c7_1 => ?_)
  · refine lv_aload_n hx hb dX9_hang_19 rfl (lv_at hl 0 rfl) ?_
    refine lv_iconst (v := 1) hx hb dX9_hang_20 (by decide) ?_
    refine fw_callV (As := [.int 1]) (rest := []) X bs_all nw_all mf_X9_fails (c_X9_fails l D cs _ _ am M R 0 0 hM 1) wm_594 wm_596 wm_11 hF hS rfl hM.2.1 rfl rfl ((⟨⟨Nat.le_of_ble_eq_true rfl, Nat.le_of_ble_eq_true rfl⟩, Nat.le_of_ble_eq_true rfl, Nat.le_of_ble_eq_true rfl⟩)) rfl hl.1 rfl (Nat.le_of_ble_eq_true rfl) dX9_hang_21 (fun v u2 H locs hp hF hS hz1 hk1 hd1 => ?_)
    obtain ⟨hv1, hM⟩ := hp
    subst hv1
    have hM : MWd cs am (M, R, 1, 0) u2 := hM
    refine W.eq (g2 := F0 m 24 ls []) rfl ?_
    refine fw_vret X hF hS ?_ (Nat.le_of_ble_eq_true rfl) (Nat.le_of_ble_eq_true rfl) dX9_hang_24
    exact Or.inl ⟨Or.inl c7_1, rfl, hM⟩
  · refine lv_aload_n hx hb dX9_hang_10 rfl (lv_at hl 0 rfl) ?_
    refine fw_get (v := .ref (am 0)) X gC_ok hF hM.2.1 rfl 0 (by decide) wm_479 rfl dX9_hang_11 ?_
    refine lv_iload_n hx hb dX9_hang_14 rfl (lv_at hl 3 rfl) ?_
    refine fw_zald X hF (hM.2.2 0 (Or.inl (by decide))) 1 rfl (show vp_in (nI d) 4 from vp_in_nI (by omega) (by decide)) (v := (M 0) d) (by rw [nI_clamp (by omega)] <;> rfl) dX9_hang_15 ?_
    refine lv_if_ne (tgt := 25) hx hb dX9_hang_16 (by decide) (fun c16_3 => ?_) (fun c16_3 => ?_)
    · refine lv_aload_n hx hb dX9_hang_25 rfl (lv_at hl 0 rfl) ?_
      refine lv_aload_n hx hb dX9_hang_26 rfl (lv_at hl 0 rfl) ?_
      refine fw_get (v := .ref (am 10)) X gC_ok hF hM.2.1 rfl 10 (by decide) wm_489 rfl dX9_hang_27 ?_
      refine lv_iload_n hx hb dX9_hang_30 rfl (lv_at hl 1 rfl) ?_
      refine fw_iald X hF (hM.2.2 10 (Or.inl (by decide))) 0 rfl (show vp_in (nI a) 4 from vp_in_nI (by omega) (by decide)) (v := (M 10) a) (by rw [nI_clamp (by omega)] <;> rfl) dX9_hang_31 ?_
      refine lv_iload_n hx hb dX9_hang_32 rfl (lv_at hl 2 rfl) ?_
      refine fw_callV (As := [.int ((M 10) a), .int b]) (rest := []) X bs_all nw_all mf_X9_has (c_X9_has l D cs _ _ am M R hM ((M 10) a) b h10) wm_627 wm_629 wm_19 hF hS rfl hM.2.1 rfl rfl ((⟨⟨Nat.le_of_ble_eq_true rfl, Nat.le_of_ble_eq_true rfl⟩, Nat.le_of_ble_eq_true rfl, Nat.le_of_ble_eq_true rfl⟩)) rfl hl.1 rfl (Nat.le_of_ble_eq_true rfl) dX9_hang_33 (fun v u4 H locs hp hF hS hz1 hk1 hd1 => ?_)
      rcases hp with ⟨k1, rfl, hM⟩ | ⟨k1, k2, rfl, hM⟩ | ⟨k1, k2, rfl, hM⟩
      · have hM := hM
        have k1h1 := k1
        refine W.eq (g2 := F0 m 36 ls [.int 0]) rfl ?_
        refine lv_if_ne (tgt := 40) hx hb dX9_hang_36 (by decide) (fun h => absurd h (by decide)) (fun _ => ?_)
        refine fw_vret X hF hS ?_ (Nat.le_of_ble_eq_true rfl) (Nat.le_of_ble_eq_true rfl) dX9_hang_39
        exact absurd k1h1 c7_1
      · have hM := hM
        have k1h2 := k1
        have k2h2 := k2
        refine W.eq (g2 := F0 m 36 ls [.int 0]) rfl ?_
        refine lv_if_ne (tgt := 40) hx hb dX9_hang_36 (by decide) (fun h => absurd h (by decide)) (fun _ => ?_)
        refine fw_vret X hF hS ?_ (Nat.le_of_ble_eq_true rfl) (Nat.le_of_ble_eq_true rfl) dX9_hang_39
        exact Or.inr (Or.inl ⟨(fun z => z.elim c7_1 c16_3), k2h2, rfl, hM⟩)
      · have hM := hM
        have k1h3 := k1
        have k2h3 := k2
        obtain ⟨j3, hj3, ej3⟩ := vp_in_of (wi_in (wi_le k2h3 (h10).2) (N := 12) (by decide)) (by decide)
        subst ej3
        refine W.eq (g2 := F0 m 36 ls [.int 1]) rfl ?_
        refine lv_if_ne (tgt := 40) hx hb dX9_hang_36 (by decide) (fun _ => ?_) (fun h => absurd h (by decide))
        refine lv_aload_n hx hb dX9_hang_40 rfl (lv_at hl 0 rfl) ?_
        refine fw_get (v := .ref (am 2)) X gC_ok hF hM.2.1 rfl 2 (by decide) wm_481 rfl dX9_hang_41 ?_
        refine lv_iconst (v := 2) hx hb dX9_hang_44 (by decide) ?_
        refine lv_iload_n hx hb dX9_hang_45 rfl (lv_at hl 3 rfl) ?_
        refine lv_imul hx hb dX9_hang_46 ?_
        refine fw_iald X hF (hM.2.2 2 (Or.inl (by decide))) 0 rfl (show vp_in (2 * (nI d)) 8 by rw [(show 2 * (nI d) = nI (2 * d) by simp only [and_sb, and_sb1, nl1, nl2, nl3, nl4, nl5, nl16, nl20, nl400, pk_mul, nI_add])]; exact vp_in_nI (by omega) (by decide)) (v := (M 2) (2 * d)) (by rw [(show 2 * (nI d) = nI (2 * d) by simp only [and_sb, and_sb1, nl1, nl2, nl3, nl4, nl5, nl16, nl20, nl400, pk_mul, nI_add]), nI_clamp (by omega)] <;> rfl) dX9_hang_47 ?_
        refine lv_istore (lv' := [(4, .int ((M 2) (2 * d))), (0, .ref (am 28)), (1, .int (nI a)), (2, .int (nI j3)), (3, .int (nI d))]) hx hb dX9_hang_48 hl (by decide) rfl (fun ls hl => ?_)
        refine lv_aload_n hx hb dX9_hang_50 rfl (lv_at hl 1 rfl) ?_
        refine fw_get (v := .ref (am 11)) X gC_ok hF hM.2.1 rfl 11 (by decide) wm_490 rfl dX9_hang_51 ?_
        refine lv_iload_n hx hb dX9_hang_54 rfl (lv_at hl 2 rfl) ?_
        refine fw_zald X hF (hM.2.2 11 (Or.inl (by decide))) 1 rfl (show vp_in (nI a) 4 from vp_in_nI (by omega) (by decide)) (v := (M 11) a) (by rw [nI_clamp (by omega)] <;> rfl) dX9_hang_55 ?_
        refine lv_if_eq (tgt := 81) hx hb dX9_hang_56 (by decide) (fun c56_8 => ?_) (fun c56_8 => ?_)
        · refine lv_aload_n hx hb dX9_hang_81 rfl (lv_at hl 1 rfl) ?_
          refine fw_get (v := .ref (am 12)) X gC_ok hF hM.2.1 rfl 12 (by decide) wm_491 rfl dX9_hang_82 ?_
          refine lv_bipush (v := 20) hx hb dX9_hang_85 (by decide) ?_
          refine lv_iload_n hx hb dX9_hang_87 rfl (lv_at hl 2 rfl) ?_
          refine lv_imul hx hb dX9_hang_88 ?_
          refine lv_iload_n hx hb dX9_hang_89 rfl (lv_at hl 3 rfl) ?_
          refine lv_iadd hx hb dX9_hang_90 ?_
          refine lv_iload hx hb dX9_hang_91 (lv_at hl 0 rfl) ?_
          refine fw_iast X hF hS (hM.2.2 12 (Or.inl (by decide))) 0 rfl (show vp_in ((20 * (nI a)) + (nI j3)) 80 by rw [(show (20 * (nI a)) + (nI j3) = nI (20 * a + j3) by simp only [and_sb, and_sb1, nl1, nl2, nl3, nl4, nl5, nl16, nl20, nl400, pk_mul, nI_add])]; exact vp_in_nI (by omega) (by decide)) dX9_hang_93 (fun H locs hF hS => ?_)
          rw [show ((20 * (nI a)) + (nI j3)).toNatClampNeg = 20 * a + j3 by rw [(show (20 * (nI a)) + (nI j3) = nI (20 * a + j3) by simp only [and_sb, and_sb1, nl1, nl2, nl3, nl4, nl5, nl16, nl20, nl400, pk_mul, nI_add])]; exact nI_clamp (by omega)] at hF
          obtain ⟨u9, hu9⟩ : ∃ y : fW, y = va_up u4 (am 12) (some (.inl (cs 0, 80, .inl (upd (M 12) (20 * a + j3) ((M 2) (2 * d)))))) := ⟨_, rfl⟩
          have hM := hM.set 12 (Or.inl (by decide)) (upd (M 12) (20 * a + j3) ((M 2) (2 * d)))
          have hF : fw_P D cls10 A u9 H := by rw [hu9]; exact hF
          have hM : MWd cs am (va_up M 12 (upd (M 12) (20 * a + j3) ((M 2) (2 * d))), R, 0, 0) u9 := by rw [hu9]; exact hM
          refine lv_aload_n hx hb dX9_hang_94 rfl (lv_at hl 1 rfl) ?_
          refine lv_iconst (v := 1) hx hb dX9_hang_95 (by decide) ?_
          refine fw_put X gC_ok hF hS hM.2.1 rfl 27 (by decide) wm_506 rfl (tf := .int) (by decide +kernel) rfl rfl (Nat.le_of_ble_eq_true rfl) dX9_hang_96 (fun H locs hF hS => ?_)
          obtain ⟨u10, hu10⟩ : ∃ y : fW, y = va_up u9 (am 28) (some (mObj am (va_up M 12 (upd (M 12) (20 * a + j3) ((M 2) (2 * d))), R, 0, 1))) := ⟨_, rfl⟩
          have hM := hM.obj R 0 1
          have hF : fw_P D cls10 A u10 H := by rw [hu10]; exact hF
          have hM : MWd cs am (va_up M 12 (upd (M 12) (20 * a + j3) ((M 2) (2 * d))), R, 0, 1) u10 := by rw [hu10]; exact hM
          refine fw_vret X hF hS ?_ (Nat.le_of_ble_eq_true rfl) (Nat.le_of_ble_eq_true rfl) dX9_hang_99
          refine Or.inr (Or.inr (Or.inr ⟨(fun z => z.elim c7_1 c16_3), k2h3, (fun z => z.1 c56_8), rfl, ?_⟩))
          rw [show ix (nI j3) = j3 from nI_clamp (by omega)]
          exact hM
        · refine lv_iload hx hb dX9_hang_59 (lv_at hl 0 rfl) ?_
          refine lv_iconst (v := (-1)) hx hb dX9_hang_61 (by decide) ?_
          refine lv_icmp_eq (tgt := 81) hx hb dX9_hang_62 (by decide) (fun c62_11 => ?_) (fun c62_11 => ?_)
          · refine lv_aload_n hx hb dX9_hang_81 rfl (lv_at hl 1 rfl) ?_
            refine fw_get (v := .ref (am 12)) X gC_ok hF hM.2.1 rfl 12 (by decide) wm_491 rfl dX9_hang_82 ?_
            refine lv_bipush (v := 20) hx hb dX9_hang_85 (by decide) ?_
            refine lv_iload_n hx hb dX9_hang_87 rfl (lv_at hl 2 rfl) ?_
            refine lv_imul hx hb dX9_hang_88 ?_
            refine lv_iload_n hx hb dX9_hang_89 rfl (lv_at hl 3 rfl) ?_
            refine lv_iadd hx hb dX9_hang_90 ?_
            refine lv_iload hx hb dX9_hang_91 (lv_at hl 0 rfl) ?_
            refine fw_iast X hF hS (hM.2.2 12 (Or.inl (by decide))) 0 rfl (show vp_in ((20 * (nI a)) + (nI j3)) 80 by rw [(show (20 * (nI a)) + (nI j3) = nI (20 * a + j3) by simp only [and_sb, and_sb1, nl1, nl2, nl3, nl4, nl5, nl16, nl20, nl400, pk_mul, nI_add])]; exact vp_in_nI (by omega) (by decide)) dX9_hang_93 (fun H locs hF hS => ?_)
            rw [show ((20 * (nI a)) + (nI j3)).toNatClampNeg = 20 * a + j3 by rw [(show (20 * (nI a)) + (nI j3) = nI (20 * a + j3) by simp only [and_sb, and_sb1, nl1, nl2, nl3, nl4, nl5, nl16, nl20, nl400, pk_mul, nI_add])]; exact nI_clamp (by omega)] at hF
            obtain ⟨u12, hu12⟩ : ∃ y : fW, y = va_up u4 (am 12) (some (.inl (cs 0, 80, .inl (upd (M 12) (20 * a + j3) ((M 2) (2 * d)))))) := ⟨_, rfl⟩
            have hM := hM.set 12 (Or.inl (by decide)) (upd (M 12) (20 * a + j3) ((M 2) (2 * d)))
            have hF : fw_P D cls10 A u12 H := by rw [hu12]; exact hF
            have hM : MWd cs am (va_up M 12 (upd (M 12) (20 * a + j3) ((M 2) (2 * d))), R, 0, 0) u12 := by rw [hu12]; exact hM
            refine lv_aload_n hx hb dX9_hang_94 rfl (lv_at hl 1 rfl) ?_
            refine lv_iconst (v := 1) hx hb dX9_hang_95 (by decide) ?_
            refine fw_put X gC_ok hF hS hM.2.1 rfl 27 (by decide) wm_506 rfl (tf := .int) (by decide +kernel) rfl rfl (Nat.le_of_ble_eq_true rfl) dX9_hang_96 (fun H locs hF hS => ?_)
            obtain ⟨u13, hu13⟩ : ∃ y : fW, y = va_up u12 (am 28) (some (mObj am (va_up M 12 (upd (M 12) (20 * a + j3) ((M 2) (2 * d))), R, 0, 1))) := ⟨_, rfl⟩
            have hM := hM.obj R 0 1
            have hF : fw_P D cls10 A u13 H := by rw [hu13]; exact hF
            have hM : MWd cs am (va_up M 12 (upd (M 12) (20 * a + j3) ((M 2) (2 * d))), R, 0, 1) u13 := by rw [hu13]; exact hM
            refine fw_vret X hF hS ?_ (Nat.le_of_ble_eq_true rfl) (Nat.le_of_ble_eq_true rfl) dX9_hang_99
            refine Or.inr (Or.inr (Or.inr ⟨(fun z => z.elim c7_1 c16_3), k2h3, (fun z => by obtain ⟨-, t9, h1, h2, -⟩ := z; rw [h2] at c62_11; exact absurd c62_11 (nI_nm1 h1)), rfl, ?_⟩))
            rw [show ix (nI j3) = j3 from nI_clamp (by omega)]
            exact hM
          · obtain ⟨s9, hs9, es9⟩ := hsl c62_11
            refine lv_aload_n hx hb dX9_hang_65 rfl (lv_at hl 1 rfl) ?_
            refine fw_get (v := .ref (am 7)) X gC_ok hF hM.2.1 rfl 7 (by decide) wm_486 rfl dX9_hang_66 ?_
            refine lv_iload hx hb dX9_hang_69 (lv_at hl 0 rfl) ?_
            refine fw_zald X hF (hM.2.2 7 (Or.inl (by decide))) 1 rfl (show vp_in ((M 2) (2 * d)) 100 by rw [es9]; exact vp_in_nI (by omega) (by decide)) (v := (M 7) s9) (by rw [es9, nI_clamp (by omega)] <;> rfl) dX9_hang_71 ?_
            refine lv_if_ne (tgt := 81) hx hb dX9_hang_72 (by decide) (fun c72_14 => ?_) (fun c72_14 => ?_)
            · refine lv_aload_n hx hb dX9_hang_81 rfl (lv_at hl 1 rfl) ?_
              refine fw_get (v := .ref (am 12)) X gC_ok hF hM.2.1 rfl 12 (by decide) wm_491 rfl dX9_hang_82 ?_
              refine lv_bipush (v := 20) hx hb dX9_hang_85 (by decide) ?_
              refine lv_iload_n hx hb dX9_hang_87 rfl (lv_at hl 2 rfl) ?_
              refine lv_imul hx hb dX9_hang_88 ?_
              refine lv_iload_n hx hb dX9_hang_89 rfl (lv_at hl 3 rfl) ?_
              refine lv_iadd hx hb dX9_hang_90 ?_
              refine lv_iload hx hb dX9_hang_91 (lv_at hl 0 rfl) ?_
              refine fw_iast X hF hS (hM.2.2 12 (Or.inl (by decide))) 0 rfl (show vp_in ((20 * (nI a)) + (nI j3)) 80 by rw [(show (20 * (nI a)) + (nI j3) = nI (20 * a + j3) by simp only [and_sb, and_sb1, nl1, nl2, nl3, nl4, nl5, nl16, nl20, nl400, pk_mul, nI_add])]; exact vp_in_nI (by omega) (by decide)) dX9_hang_93 (fun H locs hF hS => ?_)
              rw [show ((20 * (nI a)) + (nI j3)).toNatClampNeg = 20 * a + j3 by rw [(show (20 * (nI a)) + (nI j3) = nI (20 * a + j3) by simp only [and_sb, and_sb1, nl1, nl2, nl3, nl4, nl5, nl16, nl20, nl400, pk_mul, nI_add])]; exact nI_clamp (by omega)] at hF
              obtain ⟨u15, hu15⟩ : ∃ y : fW, y = va_up u4 (am 12) (some (.inl (cs 0, 80, .inl (upd (M 12) (20 * a + j3) ((M 2) (2 * d)))))) := ⟨_, rfl⟩
              have hM := hM.set 12 (Or.inl (by decide)) (upd (M 12) (20 * a + j3) ((M 2) (2 * d)))
              have hF : fw_P D cls10 A u15 H := by rw [hu15]; exact hF
              have hM : MWd cs am (va_up M 12 (upd (M 12) (20 * a + j3) ((M 2) (2 * d))), R, 0, 0) u15 := by rw [hu15]; exact hM
              refine lv_aload_n hx hb dX9_hang_94 rfl (lv_at hl 1 rfl) ?_
              refine lv_iconst (v := 1) hx hb dX9_hang_95 (by decide) ?_
              refine fw_put X gC_ok hF hS hM.2.1 rfl 27 (by decide) wm_506 rfl (tf := .int) (by decide +kernel) rfl rfl (Nat.le_of_ble_eq_true rfl) dX9_hang_96 (fun H locs hF hS => ?_)
              obtain ⟨u16, hu16⟩ : ∃ y : fW, y = va_up u15 (am 28) (some (mObj am (va_up M 12 (upd (M 12) (20 * a + j3) ((M 2) (2 * d))), R, 0, 1))) := ⟨_, rfl⟩
              have hM := hM.obj R 0 1
              have hF : fw_P D cls10 A u16 H := by rw [hu16]; exact hF
              have hM : MWd cs am (va_up M 12 (upd (M 12) (20 * a + j3) ((M 2) (2 * d))), R, 0, 1) u16 := by rw [hu16]; exact hM
              refine fw_vret X hF hS ?_ (Nat.le_of_ble_eq_true rfl) (Nat.le_of_ble_eq_true rfl) dX9_hang_99
              refine Or.inr (Or.inr (Or.inr ⟨(fun z => z.elim c7_1 c16_3), k2h3, (fun z => by obtain ⟨-, t9, h1, h2, h3⟩ := z; rw [es9] at h2; have := (nI_eq (by omega) (by omega)).mp h2; subst this; exact c72_14 h3), rfl, ?_⟩))
              rw [show ix (nI j3) = j3 from nI_clamp (by omega)]
              exact hM
            · refine lv_aload_n hx hb dX9_hang_75 rfl (lv_at hl 1 rfl) ?_
              refine lv_iconst (v := 4) hx hb dX9_hang_76 (by decide) ?_
              refine fw_callV (As := [.int 4]) (rest := []) X bs_all nw_all mf_X9_fails (c_X9_fails l D cs _ _ am M R 0 0 hM 4) wm_594 wm_596 wm_11 hF hS rfl hM.2.1 rfl rfl ((⟨⟨Nat.le_of_ble_eq_true rfl, Nat.le_of_ble_eq_true rfl⟩, Nat.le_of_ble_eq_true rfl, Nat.le_of_ble_eq_true rfl⟩)) rfl hl.1 rfl (Nat.le_of_ble_eq_true rfl) dX9_hang_77 (fun v u17 H locs hp hF hS hz1 hk1 hd1 => ?_)
              obtain ⟨hv1, hM⟩ := hp
              subst hv1
              have hM : MWd cs am (M, R, 4, 0) u17 := hM
              refine W.eq (g2 := F0 m 80 ls []) rfl ?_
              refine fw_vret X hF hS ?_ (Nat.le_of_ble_eq_true rfl) (Nat.le_of_ble_eq_true rfl) dX9_hang_80
              exact Or.inr (Or.inr (Or.inl ⟨(fun z => z.elim c7_1 c16_3), k2h3, ⟨c56_8, s9, hs9, es9, c72_14⟩, rfl, hM⟩))
    · refine lv_aload_n hx hb dX9_hang_19 rfl (lv_at hl 0 rfl) ?_
      refine lv_iconst (v := 1) hx hb dX9_hang_20 (by decide) ?_
      refine fw_callV (As := [.int 1]) (rest := []) X bs_all nw_all mf_X9_fails (c_X9_fails l D cs _ _ am M R 0 0 hM 1) wm_594 wm_596 wm_11 hF hS rfl hM.2.1 rfl rfl ((⟨⟨Nat.le_of_ble_eq_true rfl, Nat.le_of_ble_eq_true rfl⟩, Nat.le_of_ble_eq_true rfl, Nat.le_of_ble_eq_true rfl⟩)) rfl hl.1 rfl (Nat.le_of_ble_eq_true rfl) dX9_hang_21 (fun v u18 H locs hp hF hS hz1 hk1 hd1 => ?_)
      obtain ⟨hv1, hM⟩ := hp
      subst hv1
      have hM : MWd cs am (M, R, 1, 0) u18 := hM
      refine W.eq (g2 := F0 m 24 ls []) rfl ?_
      refine fw_vret X hF hS ?_ (Nat.le_of_ble_eq_true rfl) (Nat.le_of_ble_eq_true rfl) dX9_hang_24
      exact Or.inl ⟨Or.inr c16_3, rfl, hM⟩
set_option maxHeartbeats 4000000 in
set_option maxRecDepth 100000 in
theorem c_X9_balance (l : Launch) (D : va_G) (cs : Nat → ClassId) (w : fW) (sz : Nat) (am : Nat → Nat) (M : Nat → Nat → Int32) (R : aRe) (hM : MWd cs am (M, R, 0, 0) w) (a : Nat) (b : Int32) (ha : a < 4) (h10 : lenI (M 10 a)) (hsl : wi b (M 10 a) = true → ¬ M 12 (20 * a + ix b) = -1 → ∃ s9, s9 < 100 ∧ M 12 (20 * a + ix b) = nI s9) : gM l bs_B nw_B D cls10 (tyl cs) yX9_balance cX9_balance 4 none 2 47 0 0 w sz [.ref (am 28), .int (nI a), .int b] (fun v w' => (M 10 a = -1 ∧ v = none ∧ MWd cs am (M, R, 1, 0) w') ∨ (¬ M 10 a = -1 ∧ wi b (M 10 a) = false ∧ v = none ∧ MWd cs am (M, R, 3, 0) w') ∨ (¬ M 10 a = -1 ∧ wi b (M 10 a) = true ∧ M 12 (20 * a + ix b) = -1 ∧ v = none ∧ MWd cs am (M, R, 1, 0) w') ∨ (¬ M 10 a = -1 ∧ wi b (M 10 a) = true ∧ ∃ s9, s9 < 100 ∧ M 12 (20 * a + ix b) = nI s9 ∧ M 7 s9 = 0 ∧ v = none ∧ MWd cs am (M, R, 5, 0) w') ∨ (¬ M 10 a = -1 ∧ wi b (M 10 a) = true ∧ ∃ s9, s9 < 100 ∧ M 12 (20 * a + ix b) = nI s9 ∧ ¬ M 7 s9 = 0 ∧ v = none ∧ MWd cs am (va_up M 6 (upd (M 6) s9 0), R, 0, 1000 + M 5 s9) w')) := by
  refine gM.of (by decide +kernel) (Nat.le_of_ble_eq_true rfl) (fun p e s m below meth c A ls X hsz hnm hF hS hl => ?_)
  have hx := X.1
  have hb := X.2.1
  have hl : lv_has ls 4 [(0, .ref (am 28)), (1, .int (nI a)), (2, .int b)] := hl
  refine lv_aload_n hx hb dX9_balance_0 rfl (lv_at hl 0 rfl) ?_
  refine lv_aload_n hx hb dX9_balance_1 rfl (lv_at hl 0 rfl) ?_
  refine fw_get (v := .ref (am 10)) X gC_ok hF hM.2.1 rfl 10 (by decide) wm_489 rfl dX9_balance_2 ?_
  refine lv_iload_n hx hb dX9_balance_5 rfl (lv_at hl 1 rfl) ?_
  refine fw_iald X hF (hM.2.2 10 (Or.inl (by decide))) 0 rfl (show vp_in (nI a) 4 from vp_in_nI (by omega) (by decide)) (v := (M 10) a) (by rw [nI_clamp (by omega)] <;> rfl) dX9_balance_6 ?_
  refine lv_iload_n hx hb dX9_balance_7 rfl (lv_at hl 2 rfl) ?_
  refine fw_callV (As := [.int ((M 10) a), .int b]) (rest := []) X bs_all nw_all mf_X9_has (c_X9_has l D cs _ _ am M R hM ((M 10) a) b h10) wm_627 wm_629 wm_19 hF hS rfl hM.2.1 rfl rfl ((⟨⟨Nat.le_of_ble_eq_true rfl, Nat.le_of_ble_eq_true rfl⟩, Nat.le_of_ble_eq_true rfl, Nat.le_of_ble_eq_true rfl⟩)) rfl hl.1 rfl (Nat.le_of_ble_eq_true rfl) dX9_balance_8 (fun v u1 H locs hp hF hS hz1 hk1 hd1 => ?_)
  rcases hp with ⟨k1, rfl, hM⟩ | ⟨k1, k2, rfl, hM⟩ | ⟨k1, k2, rfl, hM⟩
  · have hM := hM
    have k1h1 := k1
    refine W.eq (g2 := F0 m 11 ls [.int 0]) rfl ?_
    refine lv_if_ne (tgt := 15) hx hb dX9_balance_11 (by decide) (fun h => absurd h (by decide)) (fun _ => ?_)
    refine fw_vret X hF hS ?_ (Nat.le_of_ble_eq_true rfl) (Nat.le_of_ble_eq_true rfl) dX9_balance_14
    exact Or.inl ⟨k1h1, rfl, hM⟩
  · have hM := hM
    have k1h2 := k1
    have k2h2 := k2
    refine W.eq (g2 := F0 m 11 ls [.int 0]) rfl ?_
    refine lv_if_ne (tgt := 15) hx hb dX9_balance_11 (by decide) (fun h => absurd h (by decide)) (fun _ => ?_)
    refine fw_vret X hF hS ?_ (Nat.le_of_ble_eq_true rfl) (Nat.le_of_ble_eq_true rfl) dX9_balance_14
    exact Or.inr (Or.inl ⟨k1h2, k2h2, rfl, hM⟩)
  · have hM := hM
    have k1h3 := k1
    have k2h3 := k2
    obtain ⟨j3, hj3, ej3⟩ := vp_in_of (wi_in (wi_le k2h3 (h10).2) (N := 12) (by decide)) (by decide)
    subst ej3
    refine W.eq (g2 := F0 m 11 ls [.int 1]) rfl ?_
    refine lv_if_ne (tgt := 15) hx hb dX9_balance_11 (by decide) (fun _ => ?_) (fun h => absurd h (by decide))
    refine lv_aload_n hx hb dX9_balance_15 rfl (lv_at hl 0 rfl) ?_
    refine fw_get (v := .ref (am 12)) X gC_ok hF hM.2.1 rfl 12 (by decide) wm_491 rfl dX9_balance_16 ?_
    refine lv_bipush (v := 20) hx hb dX9_balance_19 (by decide) ?_
    refine lv_iload_n hx hb dX9_balance_21 rfl (lv_at hl 1 rfl) ?_
    refine lv_imul hx hb dX9_balance_22 ?_
    refine lv_iload_n hx hb dX9_balance_23 rfl (lv_at hl 2 rfl) ?_
    refine lv_iadd hx hb dX9_balance_24 ?_
    refine fw_iald X hF (hM.2.2 12 (Or.inl (by decide))) 0 rfl (show vp_in ((20 * (nI a)) + (nI j3)) 80 by rw [(show (20 * (nI a)) + (nI j3) = nI (20 * a + j3) by simp only [and_sb, and_sb1, nl1, nl2, nl3, nl4, nl5, nl16, nl20, nl400, pk_mul, nI_add])]; exact vp_in_nI (by omega) (by decide)) (v := (M 12) (20 * a + j3)) (by rw [(show (20 * (nI a)) + (nI j3) = nI (20 * a + j3) by simp only [and_sb, and_sb1, nl1, nl2, nl3, nl4, nl5, nl16, nl20, nl400, pk_mul, nI_add]), nI_clamp (by omega)] <;> rfl) dX9_balance_25 ?_
    refine lv_istore_n (lv' := [(3, .int ((M 12) (20 * a + j3))), (0, .ref (am 28)), (1, .int (nI a)), (2, .int (nI j3))]) hx hb dX9_balance_26 rfl hl (by decide) rfl (fun ls hl => ?_)
    refine lv_iload_n hx hb dX9_balance_27 rfl (lv_at hl 0 rfl) ?_
    refine lv_iconst (v := (-1)) hx hb dX9_balance_28 (by decide) ?_
    refine lv_icmp_eq (tgt := 41) hx hb dX9_balance_29 (by decide) (fun c29_5 => ?_) (fun c29_5 => ?_)
    · refine lv_aload_n hx hb dX9_balance_41 rfl (lv_at hl 1 rfl) ?_
      refine lv_iload_n hx hb dX9_balance_42 rfl (lv_at hl 0 rfl) ?_
      refine lv_iconst (v := (-1)) hx hb dX9_balance_43 (by decide) ?_
      refine lv_icmp_ne (tgt := 51) hx hb dX9_balance_44 (by decide) (fun c44_6 => ?_) (fun c44_6 => ?_)
      · exact absurd c29_5 c44_6
      · refine lv_iconst (v := 1) hx hb dX9_balance_47 (by decide) ?_
        refine lv_goto (tgt := 52) hx hb dX9_balance_48 (by decide) ?_
        refine fw_callV (As := [.int 1]) (rest := []) X bs_all nw_all mf_X9_fails (c_X9_fails l D cs _ _ am M R 0 0 hM 1) wm_594 wm_596 wm_11 hF hS rfl hM.2.1 rfl rfl ((⟨⟨Nat.le_of_ble_eq_true rfl, Nat.le_of_ble_eq_true rfl⟩, Nat.le_of_ble_eq_true rfl, Nat.le_of_ble_eq_true rfl⟩)) rfl hl.1 rfl (Nat.le_of_ble_eq_true rfl) dX9_balance_52 (fun v u7 H locs hp hF hS hz1 hk1 hd1 => ?_)
        obtain ⟨hv1, hM⟩ := hp
        subst hv1
        have hM : MWd cs am (M, R, 1, 0) u7 := hM
        refine W.eq (g2 := F0 m 55 ls []) rfl ?_
        refine fw_vret X hF hS ?_ (Nat.le_of_ble_eq_true rfl) (Nat.le_of_ble_eq_true rfl) dX9_balance_55
        rw [show ix (nI j3) = j3 from nI_clamp (by omega)]
        exact Or.inr (Or.inr (Or.inl ⟨k1h3, k2h3, c29_5, rfl, hM⟩))
    · obtain ⟨s9, hs9, es9⟩ := hsl k2h3 (by rw [show ix (nI j3) = j3 from nI_clamp (by omega)]; exact c29_5)
      rw [show ix (nI j3) = j3 from nI_clamp (by omega)] at es9
      refine lv_aload_n hx hb dX9_balance_32 rfl (lv_at hl 1 rfl) ?_
      refine fw_get (v := .ref (am 7)) X gC_ok hF hM.2.1 rfl 7 (by decide) wm_486 rfl dX9_balance_33 ?_
      refine lv_iload_n hx hb dX9_balance_36 rfl (lv_at hl 0 rfl) ?_
      refine fw_zald X hF (hM.2.2 7 (Or.inl (by decide))) 1 rfl (show vp_in ((M 12) (20 * a + j3)) 100 by rw [es9]; exact vp_in_nI (by omega) (by decide)) (v := (M 7) s9) (by rw [es9, nI_clamp (by omega)] <;> rfl) dX9_balance_37 ?_
      refine lv_if_ne (tgt := 56) hx hb dX9_balance_38 (by decide) (fun c38_8 => ?_) (fun c38_8 => ?_)
      · refine lv_aload_n hx hb dX9_balance_56 rfl (lv_at hl 1 rfl) ?_
        refine fw_get (v := .ref (am 6)) X gC_ok hF hM.2.1 rfl 6 (by decide) wm_485 rfl dX9_balance_57 ?_
        refine lv_iload_n hx hb dX9_balance_60 rfl (lv_at hl 0 rfl) ?_
        refine lv_iconst (v := 0) hx hb dX9_balance_61 (by decide) ?_
        refine fw_iast X hF hS (hM.2.2 6 (Or.inl (by decide))) 0 rfl (show vp_in ((M 12) (20 * a + j3)) 100 by rw [es9]; exact vp_in_nI (by omega) (by decide)) dX9_balance_62 (fun H locs hF hS => ?_)
        rw [show ((M 12) (20 * a + j3)).toNatClampNeg = s9 by rw [es9]; exact nI_clamp (by omega)] at hF
        obtain ⟨u9, hu9⟩ : ∃ y : fW, y = va_up u1 (am 6) (some (.inl (cs 0, 100, .inl (upd (M 6) s9 0)))) := ⟨_, rfl⟩
        have hM := hM.set 6 (Or.inl (by decide)) (upd (M 6) s9 0)
        have hF : fw_P D cls10 A u9 H := by rw [hu9]; exact hF
        have hM : MWd cs am (va_up M 6 (upd (M 6) s9 0), R, 0, 0) u9 := by rw [hu9]; exact hM
        refine lv_aload_n hx hb dX9_balance_63 rfl (lv_at hl 1 rfl) ?_
        refine lv_sipush (v := 1000) hx hb dX9_balance_64 (by decide) ?_
        refine lv_aload_n hx hb dX9_balance_67 rfl (lv_at hl 1 rfl) ?_
        refine fw_get (v := .ref (am 5)) X gC_ok hF hM.2.1 rfl 5 (by decide) wm_484 rfl dX9_balance_68 ?_
        refine lv_iload_n hx hb dX9_balance_71 rfl (lv_at hl 0 rfl) ?_
        refine fw_iald X hF (hM.2.2 5 (Or.inl (by decide))) 0 rfl (show vp_in ((M 12) (20 * a + j3)) 100 by rw [es9]; exact vp_in_nI (by omega) (by decide)) (v := (M 5) s9) (by rw [es9, nI_clamp (by omega)] <;> rfl) dX9_balance_72 ?_
        refine lv_iadd hx hb dX9_balance_73 ?_
        refine fw_put X gC_ok hF hS hM.2.1 rfl 27 (by decide) wm_506 rfl (tf := .int) (by decide +kernel) rfl rfl (Nat.le_of_ble_eq_true rfl) dX9_balance_74 (fun H locs hF hS => ?_)
        obtain ⟨u10, hu10⟩ : ∃ y : fW, y = va_up u9 (am 28) (some (mObj am (va_up M 6 (upd (M 6) s9 0), R, 0, 1000 + ((M 5) s9)))) := ⟨_, rfl⟩
        have hM := hM.obj R 0 (1000 + ((M 5) s9))
        have hF : fw_P D cls10 A u10 H := by rw [hu10]; exact hF
        have hM : MWd cs am (va_up M 6 (upd (M 6) s9 0), R, 0, 1000 + ((M 5) s9)) u10 := by rw [hu10]; exact hM
        refine fw_vret X hF hS ?_ (Nat.le_of_ble_eq_true rfl) (Nat.le_of_ble_eq_true rfl) dX9_balance_77
        rw [show ix (nI j3) = j3 from nI_clamp (by omega)]
        exact Or.inr (Or.inr (Or.inr (Or.inr ⟨k1h3, k2h3, s9, hs9, es9, c38_8, rfl, hM⟩)))
      · refine lv_aload_n hx hb dX9_balance_41 rfl (lv_at hl 1 rfl) ?_
        refine lv_iload_n hx hb dX9_balance_42 rfl (lv_at hl 0 rfl) ?_
        refine lv_iconst (v := (-1)) hx hb dX9_balance_43 (by decide) ?_
        refine lv_icmp_ne (tgt := 51) hx hb dX9_balance_44 (by decide) (fun c44_11 => ?_) (fun c44_11 => ?_)
        · refine lv_iconst (v := 5) hx hb dX9_balance_51 (by decide) ?_
          refine fw_callV (As := [.int 5]) (rest := []) X bs_all nw_all mf_X9_fails (c_X9_fails l D cs _ _ am M R 0 0 hM 5) wm_594 wm_596 wm_11 hF hS rfl hM.2.1 rfl rfl ((⟨⟨Nat.le_of_ble_eq_true rfl, Nat.le_of_ble_eq_true rfl⟩, Nat.le_of_ble_eq_true rfl, Nat.le_of_ble_eq_true rfl⟩)) rfl hl.1 rfl (Nat.le_of_ble_eq_true rfl) dX9_balance_52 (fun v u12 H locs hp hF hS hz1 hk1 hd1 => ?_)
          obtain ⟨hv1, hM⟩ := hp
          subst hv1
          have hM : MWd cs am (M, R, 5, 0) u12 := hM
          refine W.eq (g2 := F0 m 55 ls []) rfl ?_
          refine fw_vret X hF hS ?_ (Nat.le_of_ble_eq_true rfl) (Nat.le_of_ble_eq_true rfl) dX9_balance_55
          rw [show ix (nI j3) = j3 from nI_clamp (by omega)]
          exact Or.inr (Or.inr (Or.inr (Or.inl ⟨k1h3, k2h3, s9, hs9, es9, c38_8, rfl, hM⟩)))
        · exact absurd c44_11 c29_5
