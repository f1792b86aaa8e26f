theorem jo16 {T : Sg} (hI : Inv T) {j : Nat} (hj : j < 4) : ∃ n, n ≤ 16 ∧ ix (tJo T j).1 = n ∧ (tJo T j).1 = nI n := by
  have h1 := (hI.2.2.2.2.1 j hj).1
  have h2 := ix_le h1 (hI.2.2.2.2.1 j hj).2.1
  exact ⟨ix (tJo T j).1, h2, rfl, nI_ix h1⟩
set_option maxHeartbeats 4000000 in
set_option maxRecDepth 100000 in
theorem c_X9_step (l : Launch) (D : va_G) (cs : Nat → ClassId) (w : fW) (sz : Nat) (am : Nat → Nat) (M : Nat → Nat → Int32) (R : aRe) (wy an : Int32) (hM : MWd cs am (M, R, wy, an) w) (sl : Nat → Nat) (T : Sg) (hR : MR sl T M) (hI : Inv T) (j k a b d sd : Int32) : gM l bs_B nw_B D cls10 (tyl cs) yX9_step cX9_step 8 (some .int) 2 48 0 0 w sz [.ref (am 28), .int j, .int k, .int a, .int b, .int d, .int sd] (fun v w' => v = some (.int (spStep j k a b d sd T).1) ∧ ∃ M' sl', MWd cs am (M', R, wy, an) w' ∧ MR sl' (spStep j k a b d sd T).2 M') := by
  refine gM.of (by decide +kernel) (Nat.le_of_ble_eq_true rfl) (fun p e s m below meth c A ls X hsz hnm hF hS hl => ?_)
  have hx := X.1
  have hb := X.2.1
  have hl : lv_has ls 8 [(0, .ref (am 28)), (1, .int j), (2, .int k), (3, .int a), (4, .int b), (5, .int d), (6, .int sd)] := hl
  refine lv_iload_n hx hb dX9_step_0 rfl (lv_at hl 1 rfl) ?_
  refine lv_i2l hx hb dX9_step_1 rfl ?_
  refine lv_lconst (v := 0) hx hb dX9_step_2 (by decide) ?_
  refine lv_ldc2 (v := 3) hx hb X.2.2.2.1 (X.2.2.2.2.1 _ wm_576) dX9_step_3 ?_
  refine fw_callS (As := [.long j.toInt64, .long 0, .long 3]) (rest := []) X bs_all nw_all mf_X9_in (c_X9_in l D cs _ _ j.toInt64 0 3) wm_573 wm_574 hF hS rfl ((⟨⟨Nat.le_of_ble_eq_true rfl, Nat.le_of_ble_eq_true rfl⟩, Nat.le_of_ble_eq_true rfl, Nat.le_of_ble_eq_true rfl⟩)) rfl hl.1 rfl (Nat.le_of_ble_eq_true rfl) dX9_step_6 (fun v u1 H locs hp hF hS hz1 hk1 hd1 => ?_)
  obtain ⟨rfl, hw1⟩ := hp
  rw [hw1] at hF
  refine W.eq (g2 := F0 m 9 ls [.int (bz (inn j.toInt64 0 3))]) rfl ?_
  refine gx_ifeq (tgt := 39) hx hb dX9_step_9 (by decide) (fun c9_2 => ?_) (fun c9_2 => ?_)
  · rw [inn_wi (n := 4) rfl] at c9_2
    refine lv_bipush (v := (-2)) hx hb dX9_step_39 (by decide) ?_
    refine fw_iret X hF hS ?_ (Nat.le_of_ble_eq_true rfl) (Nat.le_of_ble_eq_true rfl) dX9_step_41
    have e9 : spStep j k a b d sd T = (-2, T) := if_neg (fun z => Bool.false_ne_true (c9_2.symm.trans z.1))
    rw [e9]
    exact ⟨rfl, M, sl, hM, hR⟩
  · rw [inn_wi (n := 4) rfl] at c9_2
    obtain ⟨n, hn, ej⟩ := vp_in_of (wi_in c9_2 (N := 4) (by decide)) (by decide)
    subst ej
    have hin : ix (nI n) = n := nI_clamp (by omega)
    have hl : lv_has ls 8 [(0, .ref (am 28)), (1, .int (nI n)), (2, .int k), (3, .int a), (4, .int b), (5, .int d), (6, .int sd)] := hl
    refine lv_iload_n hx hb dX9_step_12 rfl (lv_at hl 2 rfl) ?_
    refine lv_iload_n hx hb dX9_step_13 rfl (lv_at hl 3 rfl) ?_
    refine lv_iload hx hb dX9_step_14 (lv_at hl 4 rfl) ?_
    refine lv_iload hx hb dX9_step_16 (lv_at hl 5 rfl) ?_
    refine fw_callS (As := [.int k, .int a, .int b, .int d]) (rest := []) X bs_all nw_all mf_X9_isStep (c_X9_isStep l D cs _ _ k a b d) wm_569 wm_570 hF hS rfl ((⟨⟨Nat.le_of_ble_eq_true rfl, Nat.le_of_ble_eq_true rfl⟩, Nat.le_of_ble_eq_true rfl, Nat.le_of_ble_eq_true rfl⟩)) rfl hl.1 rfl (Nat.le_of_ble_eq_true rfl) dX9_step_18 (fun v u3 H locs hp hF hS hz1 hk1 hd1 => ?_)
    obtain ⟨rfl, hw1⟩ := hp
    rw [hw1] at hF
    refine W.eq (g2 := F0 m 21 ls [.int (bz (okS k a b d))]) rfl ?_
    refine gx_ifeq (tgt := 39) hx hb dX9_step_21 (by decide) (fun c21_4 => ?_) (fun c21_4 => ?_)
    · refine lv_bipush (v := (-2)) hx hb dX9_step_39 (by decide) ?_
      refine fw_iret X hF hS ?_ (Nat.le_of_ble_eq_true rfl) (Nat.le_of_ble_eq_true rfl) dX9_step_41
      have e9 : spStep (nI n) k a b d sd T = (-2, T) := if_neg (fun z => Bool.false_ne_true (c21_4.symm.trans z.2.2))
      rw [e9]
      exact ⟨rfl, M, sl, hM, hR⟩
    · refine lv_iload hx hb dX9_step_24 (lv_at hl 6 rfl) ?_
      refine lv_i2l hx hb dX9_step_26 rfl ?_
      refine lv_ldc2 (v := (-1)) hx hb X.2.2.2.1 (X.2.2.2.2.1 _ wm_643) dX9_step_27 ?_
      refine lv_ldc2 (v := 15) hx hb X.2.2.2.1 (X.2.2.2.2.1 _ wm_644) dX9_step_30 ?_
      refine fw_callS (As := [.long sd.toInt64, .long (-1), .long 15]) (rest := []) X bs_all nw_all mf_X9_in (c_X9_in l D cs _ _ sd.toInt64 (-1) 15) wm_573 wm_574 hF hS rfl ((⟨⟨Nat.le_of_ble_eq_true rfl, Nat.le_of_ble_eq_true rfl⟩, Nat.le_of_ble_eq_true rfl, Nat.le_of_ble_eq_true rfl⟩)) rfl hl.1 rfl (Nat.le_of_ble_eq_true rfl) dX9_step_33 (fun v u5 H locs hp hF hS hz1 hk1 hd1 => ?_)
      obtain ⟨rfl, hw1⟩ := hp
      rw [hw1] at hF
      refine W.eq (g2 := F0 m 36 ls [.int (bz (inn sd.toInt64 (-1) 15))]) rfl ?_
      refine gx_ifne (tgt := 42) hx hb dX9_step_36 (by decide) (fun c36_6 => ?_) (fun c36_6 => ?_)
      · refine lv_aload_n hx hb dX9_step_42 rfl (lv_at hl 0 rfl) ?_
        refine fw_get (v := .ref (am 17)) X gC_ok hF hM.2.1 rfl 17 (by decide) wm_496 rfl dX9_step_43 ?_
        refine lv_iload_n hx hb dX9_step_46 rfl (lv_at hl 1 rfl) ?_
        refine fw_iald X hF (hM.2.2 17 (Or.inl (by decide))) 0 rfl (show vp_in (nI n) 4 from vp_in_nI (by omega) (by decide)) (v := (M 17) n) (by rw [nI_clamp (by omega)] <;> rfl) dX9_step_47 ?_
        refine lv_bipush (v := 16) hx hb dX9_step_48 (by decide) ?_
        refine lv_icmp_ne (tgt := 56) hx hb dX9_step_50 (by decide) (fun c50_7 => ?_) (fun c50_7 => ?_)
        · obtain ⟨n9, hn9, hx9, en9⟩ := jo16 hI hn
          have em9 : M 17 n = nI n9 := (hR.2.2.2.2.2.2.2.1 n hn).1.trans en9
          have hn16 : n9 < 16 := by have z : n9 ≠ 16 := (fun z => c50_7 (by rw [em9, z]; rfl)); omega
          refine lv_iconst (v := 5) hx hb dX9_step_56 (by decide) ?_
          refine lv_bipush (v := 16) hx hb dX9_step_57 (by decide) ?_
          refine lv_iload_n hx hb dX9_step_59 rfl (lv_at hl 1 rfl) ?_
          refine lv_imul hx hb dX9_step_60 ?_
          refine lv_aload_n hx hb dX9_step_61 rfl (lv_at hl 0 rfl) ?_
          refine fw_get (v := .ref (am 17)) X gC_ok hF hM.2.1 rfl 17 (by decide) wm_496 rfl dX9_step_62 ?_
          refine lv_iload_n hx hb dX9_step_65 rfl (lv_at hl 1 rfl) ?_
          refine fw_iald X hF (hM.2.2 17 (Or.inl (by decide))) 0 rfl (show vp_in (nI n) 4 from vp_in_nI (by omega) (by decide)) (v := (M 17) n) (by rw [nI_clamp (by omega)] <;> rfl) dX9_step_66 ?_
          rw [em9]
          refine W.eq (g2 := F0 m 67 ls [.int (nI n9), .int (16 * (nI n)), .int 5]) rfl ?_
          refine lv_iadd hx hb dX9_step_67 ?_
          refine lv_imul hx hb dX9_step_68 ?_
          refine lv_istore (lv' := [(7, .int (5 * ((16 * (nI n)) + (nI n9)))), (0, .ref (am 28)), (1, .int (nI n)), (2, .int k), (3, .int a), (4, .int b), (5, .int d), (6, .int sd)]) hx hb dX9_step_69 hl (by decide) rfl (fun ls hl => ?_)
          refine lv_aload_n hx hb dX9_step_71 rfl (lv_at hl 1 rfl) ?_
          refine fw_get (v := .ref (am 18)) X gC_ok hF hM.2.1 rfl 18 (by decide) wm_497 rfl dX9_step_72 ?_
          refine lv_iload hx hb dX9_step_75 (lv_at hl 0 rfl) ?_
          refine lv_iload_n hx hb dX9_step_77 rfl (lv_at hl 3 rfl) ?_
          refine fw_iast X hF hS (hM.2.2 18 (Or.inl (by decide))) 0 rfl (show vp_in (5 * ((16 * (nI n)) + (nI n9))) 320 by rw [(show 5 * ((16 * (nI n)) + (nI n9)) = nI (5 * (16 * n + n9)) by simp only [and_sb, and_sb1, nl1, nl2, nl3, nl4, nl5, nl16, nl20, nl400, pk_mul, nI_add])]; exact vp_in_nI (by omega) (by decide)) dX9_step_78 (fun H locs hF hS => ?_)
          rw [show (5 * ((16 * (nI n)) + (nI n9))).toNatClampNeg = 5 * (16 * n + n9) by rw [(show 5 * ((16 * (nI n)) + (nI n9)) = nI (5 * (16 * n + n9)) by simp only [and_sb, and_sb1, nl1, nl2, nl3, nl4, nl5, nl16, nl20, nl400, pk_mul, nI_add])]; exact nI_clamp (by omega)] at hF
          obtain ⟨u8, hu8⟩ : ∃ y : fW, y = va_up w (am 18) (some (.inl (cs 0, 320, .inl (upd (M 18) (5 * (16 * n + n9)) k)))) := ⟨_, rfl⟩
          have hM := hM.set 18 (Or.inl (by decide)) (upd (M 18) (5 * (16 * n + n9)) k)
          have hF : fw_P D cls10 A u8 H := by rw [hu8]; exact hF
          have hM : MWd cs am (va_up M 18 (upd (M 18) (5 * (16 * n + n9)) k), R, wy, an) u8 := by rw [hu8]; exact hM
          refine lv_aload_n hx hb dX9_step_79 rfl (lv_at hl 1 rfl) ?_
          refine fw_get (v := .ref (am 18)) X gC_ok hF hM.2.1 rfl 18 (by decide) wm_497 rfl dX9_step_80 ?_
          refine lv_iload hx hb dX9_step_83 (lv_at hl 0 rfl) ?_
          refine lv_iconst (v := 1) hx hb dX9_step_85 (by decide) ?_
          refine lv_iadd hx hb dX9_step_86 ?_
          refine lv_iload_n hx hb dX9_step_87 rfl (lv_at hl 4 rfl) ?_
          refine fw_iast X hF hS (hM.2.2 18 (Or.inl (by decide))) 0 rfl (show vp_in ((5 * ((16 * (nI n)) + (nI n9))) + 1) 320 by rw [(show (5 * ((16 * (nI n)) + (nI n9))) + 1 = nI (5 * (16 * n + n9) + 1) by simp only [and_sb, and_sb1, nl1, nl2, nl3, nl4, nl5, nl16, nl20, nl400, pk_mul, nI_add])]; exact vp_in_nI (by omega) (by decide)) dX9_step_88 (fun H locs hF hS => ?_)
          rw [show ((5 * ((16 * (nI n)) + (nI n9))) + 1).toNatClampNeg = 5 * (16 * n + n9) + 1 by rw [(show (5 * ((16 * (nI n)) + (nI n9))) + 1 = nI (5 * (16 * n + n9) + 1) by simp only [and_sb, and_sb1, nl1, nl2, nl3, nl4, nl5, nl16, nl20, nl400, pk_mul, nI_add])]; exact nI_clamp (by omega)] at hF
          obtain ⟨u9, hu9⟩ : ∃ y : fW, y = va_up u8 (am 18) (some (.inl (cs 0, 320, .inl (upd (upd (M 18) (5 * (16 * n + n9)) k) (5 * (16 * n + n9) + 1) a)))) := ⟨_, rfl⟩
          have hM := hM.set 18 (Or.inl (by decide)) (upd (upd (M 18) (5 * (16 * n + n9)) k) (5 * (16 * n + n9) + 1) a)
          rw [uu] at hM
          have hF : fw_P D cls10 A u9 H := by rw [hu9]; exact hF
          have hM : MWd cs am (va_up M 18 (upd (upd (M 18) (5 * (16 * n + n9)) k) (5 * (16 * n + n9) + 1) a), R, wy, an) u9 := by rw [hu9]; exact hM
          refine lv_aload_n hx hb dX9_step_89 rfl (lv_at hl 1 rfl) ?_
          refine fw_get (v := .ref (am 18)) X gC_ok hF hM.2.1 rfl 18 (by decide) wm_497 rfl dX9_step_90 ?_
          refine lv_iload hx hb dX9_step_93 (lv_at hl 0 rfl) ?_
          refine lv_iconst (v := 2) hx hb dX9_step_95 (by decide) ?_
          refine lv_iadd hx hb dX9_step_96 ?_
          refine lv_iload hx hb dX9_step_97 (lv_at hl 5 rfl) ?_
          refine fw_iast X hF hS (hM.2.2 18 (Or.inl (by decide))) 0 rfl (show vp_in ((5 * ((16 * (nI n)) + (nI n9))) + 2) 320 by rw [(show (5 * ((16 * (nI n)) + (nI n9))) + 2 = nI (5 * (16 * n + n9) + 2) by simp only [and_sb, and_sb1, nl1, nl2, nl3, nl4, nl5, nl16, nl20, nl400, pk_mul, nI_add])]; exact vp_in_nI (by omega) (by decide)) dX9_step_99 (fun H locs hF hS => ?_)
          rw [show ((5 * ((16 * (nI n)) + (nI n9))) + 2).toNatClampNeg = 5 * (16 * n + n9) + 2 by rw [(show (5 * ((16 * (nI n)) + (nI n9))) + 2 = nI (5 * (16 * n + n9) + 2) by simp only [and_sb, and_sb1, nl1, nl2, nl3, nl4, nl5, nl16, nl20, nl400, pk_mul, nI_add])]; exact nI_clamp (by omega)] at hF
          obtain ⟨u10, hu10⟩ : ∃ y : fW, y = va_up u9 (am 18) (some (.inl (cs 0, 320, .inl (upd (upd (upd (M 18) (5 * (16 * n + n9)) k) (5 * (16 * n + n9) + 1) a) (5 * (16 * n + n9) + 2) b)))) := ⟨_, rfl⟩
          have hM := hM.set 18 (Or.inl (by decide)) (upd (upd (upd (M 18) (5 * (16 * n + n9)) k) (5 * (16 * n + n9) + 1) a) (5 * (16 * n + n9) + 2) b)
          rw [uu] at hM
          have hF : fw_P D cls10 A u10 H := by rw [hu10]; exact hF
          have hM : MWd cs am (va_up M 18 (upd (upd (upd (M 18) (5 * (16 * n + n9)) k) (5 * (16 * n + n9) + 1) a) (5 * (16 * n + n9) + 2) b), R, wy, an) u10 := by rw [hu10]; exact hM
          refine lv_aload_n hx hb dX9_step_100 rfl (lv_at hl 1 rfl) ?_
          refine fw_get (v := .ref (am 18)) X gC_ok hF hM.2.1 rfl 18 (by decide) wm_497 rfl dX9_step_101 ?_
          refine lv_iload hx hb dX9_step_104 (lv_at hl 0 rfl) ?_
          refine lv_iconst (v := 3) hx hb dX9_step_106 (by decide) ?_
          refine lv_iadd hx hb dX9_step_107 ?_
          refine lv_iload hx hb dX9_step_108 (lv_at hl 6 rfl) ?_
          refine fw_iast X hF hS (hM.2.2 18 (Or.inl (by decide))) 0 rfl (show vp_in ((5 * ((16 * (nI n)) + (nI n9))) + 3) 320 by rw [(show (5 * ((16 * (nI n)) + (nI n9))) + 3 = nI (5 * (16 * n + n9) + 3) by simp only [and_sb, and_sb1, nl1, nl2, nl3, nl4, nl5, nl16, nl20, nl400, pk_mul, nI_add])]; exact vp_in_nI (by omega) (by decide)) dX9_step_110 (fun H locs hF hS => ?_)
          rw [show ((5 * ((16 * (nI n)) + (nI n9))) + 3).toNatClampNeg = 5 * (16 * n + n9) + 3 by rw [(show (5 * ((16 * (nI n)) + (nI n9))) + 3 = nI (5 * (16 * n + n9) + 3) by simp only [and_sb, and_sb1, nl1, nl2, nl3, nl4, nl5, nl16, nl20, nl400, pk_mul, nI_add])]; exact nI_clamp (by omega)] at hF
          obtain ⟨u11, hu11⟩ : ∃ y : fW, y = va_up u10 (am 18) (some (.inl (cs 0, 320, .inl (upd (upd (upd (upd (M 18) (5 * (16 * n + n9)) k) (5 * (16 * n + n9) + 1) a) (5 * (16 * n + n9) + 2) b) (5 * (16 * n + n9) + 3) d)))) := ⟨_, rfl⟩
          have hM := hM.set 18 (Or.inl (by decide)) (upd (upd (upd (upd (M 18) (5 * (16 * n + n9)) k) (5 * (16 * n + n9) + 1) a) (5 * (16 * n + n9) + 2) b) (5 * (16 * n + n9) + 3) d)
          rw [uu] at hM
          have hF : fw_P D cls10 A u11 H := by rw [hu11]; exact hF
          have hM : MWd cs am (va_up M 18 (upd (upd (upd (upd (M 18) (5 * (16 * n + n9)) k) (5 * (16 * n + n9) + 1) a) (5 * (16 * n + n9) + 2) b) (5 * (16 * n + n9) + 3) d), R, wy, an) u11 := by rw [hu11]; exact hM
          refine lv_aload_n hx hb dX9_step_111 rfl (lv_at hl 1 rfl) ?_
          refine fw_get (v := .ref (am 18)) X gC_ok hF hM.2.1 rfl 18 (by decide) wm_497 rfl dX9_step_112 ?_
          refine lv_iload hx hb dX9_step_115 (lv_at hl 0 rfl) ?_
          refine lv_iconst (v := 4) hx hb dX9_step_117 (by decide) ?_
          refine lv_iadd hx hb dX9_step_118 ?_
          refine lv_iload hx hb dX9_step_119 (lv_at hl 7 rfl) ?_
          refine fw_iast X hF hS (hM.2.2 18 (Or.inl (by decide))) 0 rfl (show vp_in ((5 * ((16 * (nI n)) + (nI n9))) + 4) 320 by rw [(show (5 * ((16 * (nI n)) + (nI n9))) + 4 = nI (5 * (16 * n + n9) + 4) by simp only [and_sb, and_sb1, nl1, nl2, nl3, nl4, nl5, nl16, nl20, nl400, pk_mul, nI_add])]; exact vp_in_nI (by omega) (by decide)) dX9_step_121 (fun H locs hF hS => ?_)
          rw [show ((5 * ((16 * (nI n)) + (nI n9))) + 4).toNatClampNeg = 5 * (16 * n + n9) + 4 by rw [(show (5 * ((16 * (nI n)) + (nI n9))) + 4 = nI (5 * (16 * n + n9) + 4) by simp only [and_sb, and_sb1, nl1, nl2, nl3, nl4, nl5, nl16, nl20, nl400, pk_mul, nI_add])]; exact nI_clamp (by omega)] at hF
          obtain ⟨u12, hu12⟩ : ∃ y : fW, y = va_up u11 (am 18) (some (.inl (cs 0, 320, .inl (upd (upd (upd (upd (upd (M 18) (5 * (16 * n + n9)) k) (5 * (16 * n + n9) + 1) a) (5 * (16 * n + n9) + 2) b) (5 * (16 * n + n9) + 3) d) (5 * (16 * n + n9) + 4) sd)))) := ⟨_, rfl⟩
          have hM := hM.set 18 (Or.inl (by decide)) (upd (upd (upd (upd (upd (M 18) (5 * (16 * n + n9)) k) (5 * (16 * n + n9) + 1) a) (5 * (16 * n + n9) + 2) b) (5 * (16 * n + n9) + 3) d) (5 * (16 * n + n9) + 4) sd)
          rw [uu] at hM
          have hF : fw_P D cls10 A u12 H := by rw [hu12]; exact hF
          have hM : MWd cs am (va_up M 18 (upd (upd (upd (upd (upd (M 18) (5 * (16 * n + n9)) k) (5 * (16 * n + n9) + 1) a) (5 * (16 * n + n9) + 2) b) (5 * (16 * n + n9) + 3) d) (5 * (16 * n + n9) + 4) sd), R, wy, an) u12 := by rw [hu12]; exact hM
          refine lv_aload_n hx hb dX9_step_122 rfl (lv_at hl 1 rfl) ?_
          refine fw_get (v := .ref (am 17)) X gC_ok hF hM.2.1 rfl 17 (by decide) wm_496 rfl dX9_step_123 ?_
          refine lv_iload_n hx hb dX9_step_126 rfl (lv_at hl 2 rfl) ?_
          refine lv_dup2_11 hx hb dX9_step_127 rfl rfl ?_
          refine fw_iald X hF (hM.2.2 17 (Or.inl (by decide))) 0 rfl (show vp_in (nI n) 4 from vp_in_nI (by omega) (by decide)) (v := (M 17) n) (by rw [nI_clamp (by omega)] <;> rfl) dX9_step_128 ?_
          refine lv_iconst (v := 1) hx hb dX9_step_129 (by decide) ?_
          refine lv_iadd hx hb dX9_step_130 ?_
          refine fw_iast X hF hS (hM.2.2 17 (Or.inl (by decide))) 0 rfl (show vp_in (nI n) 4 from vp_in_nI (by omega) (by decide)) dX9_step_131 (fun H locs hF hS => ?_)
          rw [show (nI n).toNatClampNeg = n from nI_clamp (by omega)] at hF
          obtain ⟨u13, hu13⟩ : ∃ y : fW, y = va_up u12 (am 17) (some (.inl (cs 0, 4, .inl (upd (M 17) n (((M 17) n) + 1))))) := ⟨_, rfl⟩
          have hM := hM.set 17 (Or.inl (by decide)) (upd (M 17) n (((M 17) n) + 1))
          have hF : fw_P D cls10 A u13 H := by rw [hu13]; exact hF
          have hM : MWd cs am (va_up (va_up M 18 (upd (upd (upd (upd (upd (M 18) (5 * (16 * n + n9)) k) (5 * (16 * n + n9) + 1) a) (5 * (16 * n + n9) + 2) b) (5 * (16 * n + n9) + 3) d) (5 * (16 * n + n9) + 4) sd)) 17 (upd (M 17) n (((M 17) n) + 1)), R, wy, an) u13 := by rw [hu13]; exact hM
          refine lv_aload_n hx hb dX9_step_132 rfl (lv_at hl 1 rfl) ?_
          refine fw_get (v := .ref (am 17)) X gC_ok hF hM.2.1 rfl 17 (by decide) wm_496 rfl dX9_step_133 ?_
          refine lv_iload_n hx hb dX9_step_136 rfl (lv_at hl 2 rfl) ?_
          refine fw_iald X hF (hM.2.2 17 (Or.inl (by decide))) 0 rfl (show vp_in (nI n) 4 from vp_in_nI (by omega) (by decide)) (v := (upd (M 17) n (((M 17) n) + 1)) n) (by rw [nI_clamp (by omega)] <;> rfl) dX9_step_137 ?_
          refine lv_iconst (v := 1) hx hb dX9_step_138 (by decide) ?_
          refine lv_isub hx hb dX9_step_139 ?_
          refine fw_iret X hF hS ?_ (Nat.le_of_ble_eq_true rfl) (Nat.le_of_ble_eq_true rfl) dX9_step_140
          have l9 : (tJo T n).1 < 16 := by rw [en9]; exact nI_lt (by omega) (by decide)
          have e9 : spStep (nI n) k a b d sd T = ((tJo T n).1, setJo T n ((tJo T n).1 + 1, va_up (tJo T n).2 (ix (tJo T n).1) (k, a, b, d, sd))) := by unfold spStep; rw [if_pos ⟨c9_2, (inn_sd sd).mp c36_6, c21_4⟩, hin, if_neg (i_nle.mpr l9)]
          rw [e9]
          refine ⟨?_, _, sl, hM, ?_⟩
          · rw [upd_s, i_as, (hR.2.2.2.2.2.2.2.1 n hn).1]
          · have := hR.joS hI hn l9 (k, a, b, d, sd)
            rw [hx9] at this ⊢
            rw [em9] at this ⊢
            exact this
        · refine lv_bipush (v := (-3)) hx hb dX9_step_53 (by decide) ?_
          refine fw_iret X hF hS ?_ (Nat.le_of_ble_eq_true rfl) (Nat.le_of_ble_eq_true rfl) dX9_step_55
          have e9 : spStep (nI n) k a b d sd T = (-3, T) := by unfold spStep; rw [if_pos ⟨c9_2, (inn_sd sd).mp c36_6, c21_4⟩, hin, ← (hR.2.2.2.2.2.2.2.1 n hn).1, c50_7, if_pos (by decide)]
          rw [e9]
          exact ⟨rfl, M, sl, hM, hR⟩
      · refine lv_bipush (v := (-2)) hx hb dX9_step_39 (by decide) ?_
        refine fw_iret X hF hS ?_ (Nat.le_of_ble_eq_true rfl) (Nat.le_of_ble_eq_true rfl) dX9_step_41
        have e9 : spStep (nI n) k a b d sd T = (-2, T) := if_neg (fun z => Bool.false_ne_true (c36_6.symm.trans ((inn_sd sd).mpr z.2.1)))
        rw [e9]
        exact ⟨rfl, M, sl, hM, hR⟩
