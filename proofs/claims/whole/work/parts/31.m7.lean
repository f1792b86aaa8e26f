theorem sb0 : sb 0 = 0 := rfl
theorem stk0 (W : Nat → aWh) (x : aS) (A : Int32) : (if (0 : Int32) = 6 then A else spTell W x 0) = bz x.1 := by simp [spTell]
theorem stk1 (W : Nat → aWh) (x : aS) (A : Int32) : (if (1 : Int32) = 6 then A else spTell W x 1) = x.2.1 := by simp [spTell]
theorem stk2 (W : Nat → aWh) (x : aS) (A : Int32) : (if (2 : Int32) = 6 then A else spTell W x 2) = oSp W x.2.2.1 := by simp [spTell]
theorem stk3 (W : Nat → aWh) (x : aS) (A : Int32) : (if (3 : Int32) = 6 then A else spTell W x 3) = oSp W x.2.2.2.1 := by simp [spTell]
theorem stk4 (W : Nat → aWh) (x : aS) (A : Int32) : (if (4 : Int32) = 6 then A else spTell W x 4) = oTu W x.2.2.1 := by simp [spTell]
theorem stk5 (W : Nat → aWh) (x : aS) (A : Int32) : (if (5 : Int32) = 6 then A else spTell W x 5) = oTu W x.2.2.2.1 := by simp [spTell]
theorem stk6 (W : Nat → aWh) (x : aS) (A : Int32) : (if (6 : Int32) = 6 then A else spTell W x 6) = A := if_pos rfl
theorem stk7 (W : Nat → aWh) (x : aS) (A : Int32) : (if (7 : Int32) = 6 then A else spTell W x 7) = (if x.2.2.2.2.1 = 1 then -1 else x.2.2.2.2.2) := by simp [spTell]
theorem sb2 : sb 2 = 0 := by decide
theorem sb3 : sb 3 = 1 := by decide
theorem sb4 : sb 4 = 0 := by decide
theorem sb5 : sb 5 = 1 := by decide
theorem wi87 {k : Int32} (h : wi k 8 = true) (h2 : k.toInt < 0 ∨ 6 < k.toInt) : k = 7 := by
  have h1 := wi_iff.mp h
  have h4 : (8 : Int32).toInt = 8 := rfl
  rw [gx_i k 7 (a := 7) rfl]
  omega
theorem hgN_0 (T : Sg) (n : Nat) : hgN T none n = false := by
  cases h : hgN T none n with
  | false => rfl
  | true => exact absurd ((hgN_iff n).mp h).1 (by decide)
theorem st_zero (T : Sg) (k : Int32) (h : wi k 8 = true) : (if k = 6 then b2 (hgN T ((false, 0, none, none, 0, 0) : aS).2.2.1 4) (hgN T ((false, 0, none, none, 0, 0) : aS).2.2.2.1 4) else spTell (W9 T) (false, 0, none, none, 0, 0) k) = 0 := by
  rcases wi8 h with z | z | z | z | z | z | z | z <;> rw [z]
  · rw [stk0]; rfl
  · rw [stk1]
  · rw [stk2]; rfl
  · rw [stk3]; rfl
  · rw [stk4]; rfl
  · rw [stk5]; rfl
  · rw [stk6, hgN_0]; rfl
  · rw [stk7]; rfl
set_option maxHeartbeats 4000000 in
set_option maxRecDepth 100000 in
theorem c_X9_stand (l : Launch) (D : va_G) (cs : Nat → ClassId) (w : fW) (sz : Nat) (am : Nat → Nat) (M : Nat → Nat → Int32) (R : aRe) (wy an : Int32) (hM : MWd cs am (M, R, wy, an) w) (sl : Nat → Nat) (T : Sg) (hR : MR sl T M) (hRe : R = tRe T) (hI : Inv T) (a k : Int32) : gM l bs_B nw_B D cls10 (tyl cs) yX9_stand cX9_stand 4 (some .int) 1 25 0 0 w sz [.ref (am 28), .int a, .int k] (fun v w' => v = some (.int (spStand T a k)) ∧ MWd cs am (M, R, wy, an) w') := by
  refine gM.of (by decide +kernel) (Nat.le_of_ble_eq_true rfl) (fun p e s m below meth c A ls X hsz hnm hF hS hl => ?_)
  have hx := X.1
  have hb := X.2.1
  have hl : lv_has ls 4 [(0, .ref (am 28)), (1, .int a), (2, .int k)] := hl
  refine lv_iload_n hx hb dX9_stand_0 rfl (lv_at hl 1 rfl) ?_
  refine lv_i2l hx hb dX9_stand_1 rfl ?_
  refine lv_lconst (v := 0) hx hb dX9_stand_2 (by decide) ?_
  refine lv_ldc2 (v := 3) hx hb X.2.2.2.1 (X.2.2.2.2.1 _ wm_576) dX9_stand_3 ?_
  refine fw_callS (As := [.long a.toInt64, .long 0, .long 3]) (rest := []) X bs_all nw_all mf_X9_in (c_X9_in l D cs _ _ a.toInt64 0 3) wm_573 wm_574 hF hS rfl ((⟨⟨Nat.le_of_ble_eq_true rfl, Nat.le_of_ble_eq_true rfl⟩, Nat.le_of_ble_eq_true rfl, Nat.le_of_ble_eq_true rfl⟩)) rfl hl.1 rfl (Nat.le_of_ble_eq_true rfl) dX9_stand_6 (fun v u1 H locs hp hF hS hz1 hk1 hd1 => ?_)
  obtain ⟨rfl, hw1⟩ := hp
  rw [hw1] at hF
  refine W.eq (g2 := F0 m 9 ls [.int (bz (inn a.toInt64 0 3))]) rfl ?_
  refine gx_ifeq (tgt := 24) hx hb dX9_stand_9 (by decide) (fun c9_2 => ?_) (fun c9_2 => ?_)
  · rw [inn_wi (n := 4) rfl] at c9_2
    refine lv_ldc (v := (-2147483648)) hx hb X.2.2.2.1 (X.2.2.2.2.1 _ wm_674) dX9_stand_24 ?_
    refine fw_iret X hF hS ?_ (Nat.le_of_ble_eq_true rfl) (Nat.le_of_ble_eq_true rfl) dX9_stand_26
    refine ⟨?_, hM⟩
    unfold spStand
    rw [if_neg (by rw [c9_2]; decide)]
  · rw [inn_wi (n := 4) rfl] at c9_2
    obtain ⟨n, hn, ea⟩ := vp_in_of (wi_in c9_2 (N := 4) (by decide)) (by decide)
    subst ea
    have hin : ix (nI n) = n := nI_clamp (by omega)
    have hl : lv_has ls 4 [(0, .ref (am 28)), (1, .int (nI n)), (2, .int k)] := hl
    refine lv_iload_n hx hb dX9_stand_12 rfl (lv_at hl 2 rfl) ?_
    refine lv_i2l hx hb dX9_stand_13 rfl ?_
    refine lv_lconst (v := 0) hx hb dX9_stand_14 (by decide) ?_
    refine lv_ldc2 (v := 7) hx hb X.2.2.2.1 (X.2.2.2.2.1 _ wm_669) dX9_stand_15 ?_
    refine fw_callS (As := [.long k.toInt64, .long 0, .long 7]) (rest := []) X bs_all nw_all mf_X9_in (c_X9_in l D cs _ _ k.toInt64 0 7) wm_573 wm_574 hF hS rfl ((⟨⟨Nat.le_of_ble_eq_true rfl, Nat.le_of_ble_eq_true rfl⟩, Nat.le_of_ble_eq_true rfl, Nat.le_of_ble_eq_true rfl⟩)) rfl hl.1 rfl (Nat.le_of_ble_eq_true rfl) dX9_stand_18 (fun v u3 H locs hp hF hS hz1 hk1 hd1 => ?_)
    obtain ⟨rfl, hw1⟩ := hp
    rw [hw1] at hF
    refine W.eq (g2 := F0 m 21 ls [.int (bz (inn k.toInt64 0 7))]) rfl ?_
    refine gx_ifne (tgt := 27) hx hb dX9_stand_21 (by decide) (fun c21_4 => ?_) (fun c21_4 => ?_)
    · rw [inn_wi (n := 8) rfl] at c21_4
      refine lv_aload_n hx hb dX9_stand_27 rfl (lv_at hl 0 rfl) ?_
      refine fw_get (v := .ref (am 0)) X gC_ok hF hM.2.1 rfl 0 (by decide) wm_479 rfl dX9_stand_28 ?_
      refine lv_iload_n hx hb dX9_stand_31 rfl (lv_at hl 1 rfl) ?_
      refine fw_zald X hF (hM.2.2 0 (Or.inl (by decide))) 1 rfl (show vp_in (nI n) 4 from vp_in_nI (by omega) (by decide)) (v := (M 0) n) (by rw [nI_clamp (by omega)] <;> rfl) dX9_stand_32 ?_
      refine lv_if_ne (tgt := 38) hx hb dX9_stand_33 (by decide) (fun c33_5 => ?_) (fun c33_5 => ?_)
      · have zb : ¬ (tSt T n).1 = false := fun z => c33_5 ((bk0 hR hn).mpr z)
        have hsb := sb_lt k
        obtain ⟨o0, o1, o2, o3, o4, o5⟩ := hR.1 n hn
        refine lv_aload_n hx hb dX9_stand_38 rfl (lv_at hl 0 rfl) ?_
        refine fw_get (v := .ref (am 2)) X gC_ok hF hM.2.1 rfl 2 (by decide) wm_481 rfl dX9_stand_39 ?_
        refine lv_iconst (v := 2) hx hb dX9_stand_42 (by decide) ?_
        refine lv_iload_n hx hb dX9_stand_43 rfl (lv_at hl 1 rfl) ?_
        refine lv_imul hx hb dX9_stand_44 ?_
        refine lv_iload_n hx hb dX9_stand_45 rfl (lv_at hl 2 rfl) ?_
        refine lv_iconst (v := 1) hx hb dX9_stand_46 (by decide) ?_
        refine lv_iand hx hb dX9_stand_47 ?_
        refine lv_iadd hx hb dX9_stand_48 ?_
        refine fw_iald X hF (hM.2.2 2 (Or.inl (by decide))) 0 rfl (show vp_in ((2 * (nI n)) + (k &&& 1)) 8 by rw [(show (2 * (nI n)) + (k &&& 1) = nI (2 * n + sb k) by simp only [and_sb, and_sb1, nl1, nl2, nl3, nl4, nl5, nl16, nl20, nl400, pk_mul, nI_add])]; exact vp_in_nI (by omega) (by decide)) (v := (M 2) (2 * n + sb k)) (by rw [(show (2 * (nI n)) + (k &&& 1) = nI (2 * n + sb k) by simp only [and_sb, and_sb1, nl1, nl2, nl3, nl4, nl5, nl16, nl20, nl400, pk_mul, nI_add]), nI_clamp (by omega)] <;> rfl) dX9_stand_49 ?_
        refine lv_istore_n (lv' := [(3, .int ((M 2) (2 * n + sb k))), (0, .ref (am 28)), (1, .int (nI n)), (2, .int k)]) hx hb dX9_stand_50 rfl hl (by decide) rfl (fun ls hl => ?_)
        refine lv_iload_n hx hb dX9_stand_51 rfl (lv_at hl 3 rfl) ?_
        rcases gx_sw7 k with sw6 | sw6 | sw6 | sw6 | sw6 | sw6 | sw6 | sw6
        · refine lv_tableIn (off := 44) (tgt := 96) hx hb dX9_stand_52 (by rw [sw6]; decide) (by rw [sw6]; decide) (by rw [sw6]; rfl) (by decide) ?_
          subst sw6
          refine lv_iconst (v := 1) hx hb dX9_stand_96 (by decide) ?_
          refine fw_iret X hF hS ?_ (Nat.le_of_ble_eq_true rfl) (Nat.le_of_ble_eq_true rfl) dX9_stand_97
          refine ⟨?_, hM⟩
          unfold spStand
          rw [if_pos c9_2, if_pos c21_4, hin]
          rw [stk0]
          cases hb_ : (tSt T n).1 with
          | true => rfl
          | false => exact absurd hb_ zb
        · refine lv_tableIn (off := 46) (tgt := 98) hx hb dX9_stand_52 (by rw [sw6]; decide) (by rw [sw6]; decide) (by rw [sw6]; rfl) (by decide) ?_
          subst sw6
          refine lv_aload_n hx hb dX9_stand_98 rfl (lv_at hl 1 rfl) ?_
          refine fw_get (v := .ref (am 1)) X gC_ok hF hM.2.1 rfl 1 (by decide) wm_480 rfl dX9_stand_99 ?_
          refine lv_iload_n hx hb dX9_stand_102 rfl (lv_at hl 2 rfl) ?_
          refine fw_iald X hF (hM.2.2 1 (Or.inl (by decide))) 0 rfl (show vp_in (nI n) 4 from vp_in_nI (by omega) (by decide)) (v := (M 1) n) (by rw [nI_clamp (by omega)] <;> rfl) dX9_stand_103 ?_
          refine fw_iret X hF hS ?_ (Nat.le_of_ble_eq_true rfl) (Nat.le_of_ble_eq_true rfl) dX9_stand_104
          refine ⟨?_, hM⟩
          unfold spStand
          rw [if_pos c9_2, if_pos c21_4, hin]
          rw [stk1]
          exact congrArg (fun z => some (Value.int z)) o1
        · refine lv_tableIn (off := 53) (tgt := 105) hx hb dX9_stand_52 (by rw [sw6]; decide) (by rw [sw6]; decide) (by rw [sw6]; rfl) (by decide) ?_
          subst sw6
          refine lv_iload_n hx hb dX9_stand_105 rfl (lv_at hl 0 rfl) ?_
          refine lv_iconst (v := (-1)) hx hb dX9_stand_106 (by decide) ?_
          refine lv_icmp_ne (tgt := 114) hx hb dX9_stand_107 (by decide) (fun c107_7 => ?_) (fun c107_7 => ?_)
          · have hml : M 2 (2 * n + sb 2) = slI sl (tSt T n).2.2.1 := (show M 2 (2 * n + sb 2) = M 2 (2 * n) by rw [sb2]; rfl).trans o2
            obtain ⟨s9, hs9, es9⟩ := hR.slot (fun r z => Or.inl ⟨n, hn, Or.inl z⟩) hml c107_7
            obtain ⟨r9, e1, hl9, e3⟩ := hR.slotq (fun r z => Or.inl ⟨n, hn, Or.inl z⟩) hml hs9 es9
            obtain ⟨p0, p1, p2⟩ := (hR.2.1 r9 hl9).2
            refine lv_aload_n hx hb dX9_stand_114 rfl (lv_at hl 1 rfl) ?_
            refine fw_get (v := .ref (am 5)) X gC_ok hF hM.2.1 rfl 5 (by decide) wm_484 rfl dX9_stand_115 ?_
            refine lv_iload_n hx hb dX9_stand_118 rfl (lv_at hl 0 rfl) ?_
            refine fw_iald X hF (hM.2.2 5 (Or.inl (by decide))) 0 rfl (show vp_in ((M 2) (2 * n + sb 2)) 100 by rw [es9]; exact vp_in_nI (by omega) (by decide)) (v := (M 5) s9) (by rw [es9, nI_clamp (by omega)] <;> rfl) dX9_stand_119 ?_
            refine fw_iret X hF hS ?_ (Nat.le_of_ble_eq_true rfl) (Nat.le_of_ble_eq_true rfl) dX9_stand_120
            refine ⟨?_, hM⟩
            unfold spStand
            rw [if_pos c9_2, if_pos c21_4, hin]
            rw [stk2]
            rw [e1]
            subst e3
            exact congrArg (fun z => some (Value.int z)) p0
          · have hml : M 2 (2 * n + sb 2) = slI sl (tSt T n).2.2.1 := (show M 2 (2 * n + sb 2) = M 2 (2 * n) by rw [sb2]; rfl).trans o2
            have z0 : (tSt T n).2.2.1 = none := (slI_1 hR (fun r z => Or.inl ⟨n, hn, Or.inl z⟩)).mp (hml.symm.trans c107_7)
            refine lv_iconst (v := 0) hx hb dX9_stand_110 (by decide) ?_
            refine lv_goto (tgt := 120) hx hb dX9_stand_111 (by decide) ?_
            refine fw_iret X hF hS ?_ (Nat.le_of_ble_eq_true rfl) (Nat.le_of_ble_eq_true rfl) dX9_stand_120
            refine ⟨?_, hM⟩
            unfold spStand
            rw [if_pos c9_2, if_pos c21_4, hin]
            rw [stk2]
            rw [z0]; rfl
        · refine lv_tableIn (off := 53) (tgt := 105) hx hb dX9_stand_52 (by rw [sw6]; decide) (by rw [sw6]; decide) (by rw [sw6]; rfl) (by decide) ?_
          subst sw6
          refine lv_iload_n hx hb dX9_stand_105 rfl (lv_at hl 0 rfl) ?_
          refine lv_iconst (v := (-1)) hx hb dX9_stand_106 (by decide) ?_
          refine lv_icmp_ne (tgt := 114) hx hb dX9_stand_107 (by decide) (fun c107_8 => ?_) (fun c107_8 => ?_)
          · have hml : M 2 (2 * n + sb 3) = slI sl (tSt T n).2.2.2.1 := (show M 2 (2 * n + sb 3) = M 2 (2 * n + 1) by rw [sb3]).trans o3
            obtain ⟨s9, hs9, es9⟩ := hR.slot (fun r z => Or.inl ⟨n, hn, Or.inr z⟩) hml c107_8
            obtain ⟨r9, e1, hl9, e3⟩ := hR.slotq (fun r z => Or.inl ⟨n, hn, Or.inr z⟩) hml hs9 es9
            obtain ⟨p0, p1, p2⟩ := (hR.2.1 r9 hl9).2
            refine lv_aload_n hx hb dX9_stand_114 rfl (lv_at hl 1 rfl) ?_
            refine fw_get (v := .ref (am 5)) X gC_ok hF hM.2.1 rfl 5 (by decide) wm_484 rfl dX9_stand_115 ?_
            refine lv_iload_n hx hb dX9_stand_118 rfl (lv_at hl 0 rfl) ?_
            refine fw_iald X hF (hM.2.2 5 (Or.inl (by decide))) 0 rfl (show vp_in ((M 2) (2 * n + sb 3)) 100 by rw [es9]; exact vp_in_nI (by omega) (by decide)) (v := (M 5) s9) (by rw [es9, nI_clamp (by omega)] <;> rfl) dX9_stand_119 ?_
            refine fw_iret X hF hS ?_ (Nat.le_of_ble_eq_true rfl) (Nat.le_of_ble_eq_true rfl) dX9_stand_120
            refine ⟨?_, hM⟩
            unfold spStand
            rw [if_pos c9_2, if_pos c21_4, hin]
            rw [stk3]
            rw [e1]
            subst e3
            exact congrArg (fun z => some (Value.int z)) p0
          · have hml : M 2 (2 * n + sb 3) = slI sl (tSt T n).2.2.2.1 := (show M 2 (2 * n + sb 3) = M 2 (2 * n + 1) by rw [sb3]).trans o3
            have z0 : (tSt T n).2.2.2.1 = none := (slI_1 hR (fun r z => Or.inl ⟨n, hn, Or.inr z⟩)).mp (hml.symm.trans c107_8)
            refine lv_iconst (v := 0) hx hb dX9_stand_110 (by decide) ?_
            refine lv_goto (tgt := 120) hx hb dX9_stand_111 (by decide) ?_
            refine fw_iret X hF hS ?_ (Nat.le_of_ble_eq_true rfl) (Nat.le_of_ble_eq_true rfl) dX9_stand_120
            refine ⟨?_, hM⟩
            unfold spStand
            rw [if_pos c9_2, if_pos c21_4, hin]
            rw [stk3]
            rw [z0]; rfl
        · refine lv_tableIn (off := 69) (tgt := 121) hx hb dX9_stand_52 (by rw [sw6]; decide) (by rw [sw6]; decide) (by rw [sw6]; rfl) (by decide) ?_
          subst sw6
          refine lv_iload_n hx hb dX9_stand_121 rfl (lv_at hl 0 rfl) ?_
          refine lv_iconst (v := (-1)) hx hb dX9_stand_122 (by decide) ?_
          refine lv_icmp_ne (tgt := 130) hx hb dX9_stand_123 (by decide) (fun c123_9 => ?_) (fun c123_9 => ?_)
          · have hml : M 2 (2 * n + sb 4) = slI sl (tSt T n).2.2.1 := (show M 2 (2 * n + sb 4) = M 2 (2 * n) by rw [sb4]; rfl).trans o2
            obtain ⟨s9, hs9, es9⟩ := hR.slot (fun r z => Or.inl ⟨n, hn, Or.inl z⟩) hml c123_9
            obtain ⟨r9, e1, hl9, e3⟩ := hR.slotq (fun r z => Or.inl ⟨n, hn, Or.inl z⟩) hml hs9 es9
            obtain ⟨p0, p1, p2⟩ := (hR.2.1 r9 hl9).2
            refine lv_aload_n hx hb dX9_stand_130 rfl (lv_at hl 1 rfl) ?_
            refine fw_get (v := .ref (am 6)) X gC_ok hF hM.2.1 rfl 6 (by decide) wm_485 rfl dX9_stand_131 ?_
            refine lv_iload_n hx hb dX9_stand_134 rfl (lv_at hl 0 rfl) ?_
            refine fw_iald X hF (hM.2.2 6 (Or.inl (by decide))) 0 rfl (show vp_in ((M 2) (2 * n + sb 4)) 100 by rw [es9]; exact vp_in_nI (by omega) (by decide)) (v := (M 6) s9) (by rw [es9, nI_clamp (by omega)] <;> rfl) dX9_stand_135 ?_
            refine fw_iret X hF hS ?_ (Nat.le_of_ble_eq_true rfl) (Nat.le_of_ble_eq_true rfl) dX9_stand_136
            refine ⟨?_, hM⟩
            unfold spStand
            rw [if_pos c9_2, if_pos c21_4, hin]
            rw [stk4]
            rw [e1]
            subst e3
            exact congrArg (fun z => some (Value.int z)) p1
          · have hml : M 2 (2 * n + sb 4) = slI sl (tSt T n).2.2.1 := (show M 2 (2 * n + sb 4) = M 2 (2 * n) by rw [sb4]; rfl).trans o2
            have z0 : (tSt T n).2.2.1 = none := (slI_1 hR (fun r z => Or.inl ⟨n, hn, Or.inl z⟩)).mp (hml.symm.trans c123_9)
            refine lv_iconst (v := 0) hx hb dX9_stand_126 (by decide) ?_
            refine lv_goto (tgt := 136) hx hb dX9_stand_127 (by decide) ?_
            refine fw_iret X hF hS ?_ (Nat.le_of_ble_eq_true rfl) (Nat.le_of_ble_eq_true rfl) dX9_stand_136
            refine ⟨?_, hM⟩
            unfold spStand
            rw [if_pos c9_2, if_pos c21_4, hin]
            rw [stk4]
            rw [z0]; rfl
        · refine lv_tableIn (off := 69) (tgt := 121) hx hb dX9_stand_52 (by rw [sw6]; decide) (by rw [sw6]; decide) (by rw [sw6]; rfl) (by decide) ?_
          subst sw6
          refine lv_iload_n hx hb dX9_stand_121 rfl (lv_at hl 0 rfl) ?_
          refine lv_iconst (v := (-1)) hx hb dX9_stand_122 (by decide) ?_
          refine lv_icmp_ne (tgt := 130) hx hb dX9_stand_123 (by decide) (fun c123_10 => ?_) (fun c123_10 => ?_)
          · have hml : M 2 (2 * n + sb 5) = slI sl (tSt T n).2.2.2.1 := (show M 2 (2 * n + sb 5) = M 2 (2 * n + 1) by rw [sb5]).trans o3
            obtain ⟨s9, hs9, es9⟩ := hR.slot (fun r z => Or.inl ⟨n, hn, Or.inr z⟩) hml c123_10
            obtain ⟨r9, e1, hl9, e3⟩ := hR.slotq (fun r z => Or.inl ⟨n, hn, Or.inr z⟩) hml hs9 es9
            obtain ⟨p0, p1, p2⟩ := (hR.2.1 r9 hl9).2
            refine lv_aload_n hx hb dX9_stand_130 rfl (lv_at hl 1 rfl) ?_
            refine fw_get (v := .ref (am 6)) X gC_ok hF hM.2.1 rfl 6 (by decide) wm_485 rfl dX9_stand_131 ?_
            refine lv_iload_n hx hb dX9_stand_134 rfl (lv_at hl 0 rfl) ?_
            refine fw_iald X hF (hM.2.2 6 (Or.inl (by decide))) 0 rfl (show vp_in ((M 2) (2 * n + sb 5)) 100 by rw [es9]; exact vp_in_nI (by omega) (by decide)) (v := (M 6) s9) (by rw [es9, nI_clamp (by omega)] <;> rfl) dX9_stand_135 ?_
            refine fw_iret X hF hS ?_ (Nat.le_of_ble_eq_true rfl) (Nat.le_of_ble_eq_true rfl) dX9_stand_136
            refine ⟨?_, hM⟩
            unfold spStand
            rw [if_pos c9_2, if_pos c21_4, hin]
            rw [stk5]
            rw [e1]
            subst e3
            exact congrArg (fun z => some (Value.int z)) p1
          · have hml : M 2 (2 * n + sb 5) = slI sl (tSt T n).2.2.2.1 := (show M 2 (2 * n + sb 5) = M 2 (2 * n + 1) by rw [sb5]).trans o3
            have z0 : (tSt T n).2.2.2.1 = none := (slI_1 hR (fun r z => Or.inl ⟨n, hn, Or.inr z⟩)).mp (hml.symm.trans c123_10)
            refine lv_iconst (v := 0) hx hb dX9_stand_126 (by decide) ?_
            refine lv_goto (tgt := 136) hx hb dX9_stand_127 (by decide) ?_
            refine fw_iret X hF hS ?_ (Nat.le_of_ble_eq_true rfl) (Nat.le_of_ble_eq_true rfl) dX9_stand_136
            refine ⟨?_, hM⟩
            unfold spStand
            rw [if_pos c9_2, if_pos c21_4, hin]
            rw [stk5]
            rw [z0]; rfl
        · refine lv_tableIn (off := 85) (tgt := 137) hx hb dX9_stand_52 (by rw [sw6]; decide) (by rw [sw6]; decide) (by rw [sw6]; rfl) (by decide) ?_
          subst sw6
          refine lv_aload_n hx hb dX9_stand_137 rfl (lv_at hl 1 rfl) ?_
          refine lv_aload_n hx hb dX9_stand_138 rfl (lv_at hl 1 rfl) ?_
          refine fw_get (v := .ref (am 2)) X gC_ok hF hM.2.1 rfl 2 (by decide) wm_481 rfl dX9_stand_139 ?_
          refine lv_iconst (v := 2) hx hb dX9_stand_142 (by decide) ?_
          refine lv_iload_n hx hb dX9_stand_143 rfl (lv_at hl 2 rfl) ?_
          refine lv_imul hx hb dX9_stand_144 ?_
          refine fw_iald X hF (hM.2.2 2 (Or.inl (by decide))) 0 rfl (show vp_in (2 * (nI n)) 8 by rw [(show 2 * (nI n) = nI (2 * n) by simp only [and_sb, and_sb1, nl1, nl2, nl3, nl4, nl5, nl16, nl20, nl400, pk_mul, nI_add])]; exact vp_in_nI (by omega) (by decide)) (v := (M 2) (2 * n)) (by rw [(show 2 * (nI n) = nI (2 * n) by simp only [and_sb, and_sb1, nl1, nl2, nl3, nl4, nl5, nl16, nl20, nl400, pk_mul, nI_add]), nI_clamp (by omega)] <;> rfl) dX9_stand_145 ?_
          refine fw_callV (As := [.int ((M 2) (2 * n))]) (rest := []) X bs_all nw_all mf_X9_hangs (c_X9_hangs l D cs _ _ am M R wy an hM ((M 2) (2 * n))) wm_675 wm_677 wm_23 hF hS rfl hM.2.1 rfl rfl ((⟨⟨Nat.le_of_ble_eq_true rfl, Nat.le_of_ble_eq_true rfl⟩, Nat.le_of_ble_eq_true rfl, Nat.le_of_ble_eq_true rfl⟩)) rfl hl.1 rfl (Nat.le_of_ble_eq_true rfl) dX9_stand_146 (fun v u11 H locs hp hF hS hz1 hk1 hd1 => ?_)
          obtain ⟨hv1, hM⟩ := hp
          subst hv1
          refine W.eq (g2 := F0 m 149 ls [.int (bz (hgM M ((M 2) (2 * n)) 80))]) rfl ?_
          refine gx_ifeq (tgt := 156) hx hb dX9_stand_149 (by decide) (fun c149_12 => ?_) (fun c149_12 => ?_)
          · refine lv_iconst (v := 0) hx hb dX9_stand_156 (by decide) ?_
            refine lv_aload_n hx hb dX9_stand_157 rfl (lv_at hl 1 rfl) ?_
            refine lv_aload_n hx hb dX9_stand_158 rfl (lv_at hl 1 rfl) ?_
            refine fw_get (v := .ref (am 2)) X gC_ok hF hM.2.1 rfl 2 (by decide) wm_481 rfl dX9_stand_159 ?_
            refine lv_iconst (v := 2) hx hb dX9_stand_162 (by decide) ?_
            refine lv_iload_n hx hb dX9_stand_163 rfl (lv_at hl 2 rfl) ?_
            refine lv_imul hx hb dX9_stand_164 ?_
            refine lv_iconst (v := 1) hx hb dX9_stand_165 (by decide) ?_
            refine lv_iadd hx hb dX9_stand_166 ?_
            refine fw_iald X hF (hM.2.2 2 (Or.inl (by decide))) 0 rfl (show vp_in ((2 * (nI n)) + 1) 8 by rw [(show (2 * (nI n)) + 1 = nI (2 * n + 1) by simp only [and_sb, and_sb1, nl1, nl2, nl3, nl4, nl5, nl16, nl20, nl400, pk_mul, nI_add])]; exact vp_in_nI (by omega) (by decide)) (v := (M 2) (2 * n + 1)) (by rw [(show (2 * (nI n)) + 1 = nI (2 * n + 1) by simp only [and_sb, and_sb1, nl1, nl2, nl3, nl4, nl5, nl16, nl20, nl400, pk_mul, nI_add]), nI_clamp (by omega)] <;> rfl) dX9_stand_167 ?_
            refine fw_callV (As := [.int ((M 2) (2 * n + 1))]) (rest := [.int 0]) X bs_all nw_all mf_X9_hangs (c_X9_hangs l D cs _ _ am M R wy an hM ((M 2) (2 * n + 1))) wm_675 wm_677 wm_23 hF hS rfl hM.2.1 rfl rfl ((⟨⟨Nat.le_of_ble_eq_true rfl, Nat.le_of_ble_eq_true rfl⟩, Nat.le_of_ble_eq_true rfl, Nat.le_of_ble_eq_true rfl⟩)) rfl hl.1 rfl (Nat.le_of_ble_eq_true rfl) dX9_stand_168 (fun v u13 H locs hp hF hS hz1 hk1 hd1 => ?_)
            obtain ⟨hv1, hM⟩ := hp
            subst hv1
            refine W.eq (g2 := F0 m 171 ls [.int (bz (hgM M ((M 2) (2 * n + 1)) 80)), .int 0]) rfl ?_
            refine gx_ifeq (tgt := 178) hx hb dX9_stand_171 (by decide) (fun c171_14 => ?_) (fun c171_14 => ?_)
            · refine lv_iconst (v := 0) hx hb dX9_stand_178 (by decide) ?_
              refine lv_iadd hx hb dX9_stand_179 ?_
              refine fw_iret X hF hS ?_ (Nat.le_of_ble_eq_true rfl) (Nat.le_of_ble_eq_true rfl) dX9_stand_180
              refine ⟨?_, hM⟩
              unfold spStand
              rw [if_pos c9_2, if_pos c21_4, hin]
              rw [stk6, b2_add]
              rw [o2, hg_eq hR hI (fun r z => Or.inl ⟨n, hn, Or.inl z⟩)] at c149_12
              rw [o3, hg_eq hR hI (fun r z => Or.inl ⟨n, hn, Or.inr z⟩)] at c171_14
              rw [c149_12, c171_14]; rfl
            · refine lv_iconst (v := 2) hx hb dX9_stand_174 (by decide) ?_
              refine lv_goto (tgt := 179) hx hb dX9_stand_175 (by decide) ?_
              refine lv_iadd hx hb dX9_stand_179 ?_
              refine fw_iret X hF hS ?_ (Nat.le_of_ble_eq_true rfl) (Nat.le_of_ble_eq_true rfl) dX9_stand_180
              refine ⟨?_, hM⟩
              unfold spStand
              rw [if_pos c9_2, if_pos c21_4, hin]
              rw [stk6, b2_add]
              rw [o2, hg_eq hR hI (fun r z => Or.inl ⟨n, hn, Or.inl z⟩)] at c149_12
              rw [o3, hg_eq hR hI (fun r z => Or.inl ⟨n, hn, Or.inr z⟩)] at c171_14
              rw [c149_12, c171_14]; rfl
          · refine lv_iconst (v := 1) hx hb dX9_stand_152 (by decide) ?_
            refine lv_goto (tgt := 157) hx hb dX9_stand_153 (by decide) ?_
            refine lv_aload_n hx hb dX9_stand_157 rfl (lv_at hl 1 rfl) ?_
            refine lv_aload_n hx hb dX9_stand_158 rfl (lv_at hl 1 rfl) ?_
            refine fw_get (v := .ref (am 2)) X gC_ok hF hM.2.1 rfl 2 (by decide) wm_481 rfl dX9_stand_159 ?_
            refine lv_iconst (v := 2) hx hb dX9_stand_162 (by decide) ?_
            refine lv_iload_n hx hb dX9_stand_163 rfl (lv_at hl 2 rfl) ?_
            refine lv_imul hx hb dX9_stand_164 ?_
            refine lv_iconst (v := 1) hx hb dX9_stand_165 (by decide) ?_
            refine lv_iadd hx hb dX9_stand_166 ?_
            refine fw_iald X hF (hM.2.2 2 (Or.inl (by decide))) 0 rfl (show vp_in ((2 * (nI n)) + 1) 8 by rw [(show (2 * (nI n)) + 1 = nI (2 * n + 1) by simp only [and_sb, and_sb1, nl1, nl2, nl3, nl4, nl5, nl16, nl20, nl400, pk_mul, nI_add])]; exact vp_in_nI (by omega) (by decide)) (v := (M 2) (2 * n + 1)) (by rw [(show (2 * (nI n)) + 1 = nI (2 * n + 1) by simp only [and_sb, and_sb1, nl1, nl2, nl3, nl4, nl5, nl16, nl20, nl400, pk_mul, nI_add]), nI_clamp (by omega)] <;> rfl) dX9_stand_167 ?_
            refine fw_callV (As := [.int ((M 2) (2 * n + 1))]) (rest := [.int 1]) X bs_all nw_all mf_X9_hangs (c_X9_hangs l D cs _ _ am M R wy an hM ((M 2) (2 * n + 1))) wm_675 wm_677 wm_23 hF hS rfl hM.2.1 rfl rfl ((⟨⟨Nat.le_of_ble_eq_true rfl, Nat.le_of_ble_eq_true rfl⟩, Nat.le_of_ble_eq_true rfl, Nat.le_of_ble_eq_true rfl⟩)) rfl hl.1 rfl (Nat.le_of_ble_eq_true rfl) dX9_stand_168 (fun v u15 H locs hp hF hS hz1 hk1 hd1 => ?_)
            obtain ⟨hv1, hM⟩ := hp
            subst hv1
            refine W.eq (g2 := F0 m 171 ls [.int (bz (hgM M ((M 2) (2 * n + 1)) 80)), .int 1]) rfl ?_
            refine gx_ifeq (tgt := 178) hx hb dX9_stand_171 (by decide) (fun c171_16 => ?_) (fun c171_16 => ?_)
            · refine lv_iconst (v := 0) hx hb dX9_stand_178 (by decide) ?_
              refine lv_iadd hx hb dX9_stand_179 ?_
              refine fw_iret X hF hS ?_ (Nat.le_of_ble_eq_true rfl) (Nat.le_of_ble_eq_true rfl) dX9_stand_180
              refine ⟨?_, hM⟩
              unfold spStand
              rw [if_pos c9_2, if_pos c21_4, hin]
              rw [stk6, b2_add]
              rw [o2, hg_eq hR hI (fun r z => Or.inl ⟨n, hn, Or.inl z⟩)] at c149_12
              rw [o3, hg_eq hR hI (fun r z => Or.inl ⟨n, hn, Or.inr z⟩)] at c171_16
              rw [c149_12, c171_16]; rfl
            · refine lv_iconst (v := 2) hx hb dX9_stand_174 (by decide) ?_
              refine lv_goto (tgt := 179) hx hb dX9_stand_175 (by decide) ?_
              refine lv_iadd hx hb dX9_stand_179 ?_
              refine fw_iret X hF hS ?_ (Nat.le_of_ble_eq_true rfl) (Nat.le_of_ble_eq_true rfl) dX9_stand_180
              refine ⟨?_, hM⟩
              unfold spStand
              rw [if_pos c9_2, if_pos c21_4, hin]
              rw [stk6, b2_add]
              rw [o2, hg_eq hR hI (fun r z => Or.inl ⟨n, hn, Or.inl z⟩)] at c149_12
              rw [o3, hg_eq hR hI (fun r z => Or.inl ⟨n, hn, Or.inr z⟩)] at c171_16
              rw [c149_12, c171_16]; rfl
        · refine lv_tableOut (tgt := 181) hx hb dX9_stand_52 sw6 (by decide) ?_
          have k7 : k = 7 := wi87 c21_4 sw6
          subst k7
          refine lv_aload_n hx hb dX9_stand_181 rfl (lv_at hl 1 rfl) ?_
          refine fw_get (v := .ref (am 3)) X gC_ok hF hM.2.1 rfl 3 (by decide) wm_482 rfl dX9_stand_182 ?_
          refine lv_iload_n hx hb dX9_stand_185 rfl (lv_at hl 2 rfl) ?_
          refine fw_iald X hF (hM.2.2 3 (Or.inl (by decide))) 0 rfl (show vp_in (nI n) 4 from vp_in_nI (by omega) (by decide)) (v := (M 3) n) (by rw [nI_clamp (by omega)] <;> rfl) dX9_stand_186 ?_
          refine lv_if_ne (tgt := 194) hx hb dX9_stand_187 (by decide) (fun c187_17 => ?_) (fun c187_17 => ?_)
          · refine lv_aload_n hx hb dX9_stand_194 rfl (lv_at hl 1 rfl) ?_
            refine fw_get (v := .ref (am 3)) X gC_ok hF hM.2.1 rfl 3 (by decide) wm_482 rfl dX9_stand_195 ?_
            refine lv_iload_n hx hb dX9_stand_198 rfl (lv_at hl 2 rfl) ?_
            refine fw_iald X hF (hM.2.2 3 (Or.inl (by decide))) 0 rfl (show vp_in (nI n) 4 from vp_in_nI (by omega) (by decide)) (v := (M 3) n) (by rw [nI_clamp (by omega)] <;> rfl) dX9_stand_199 ?_
            refine lv_iconst (v := 1) hx hb dX9_stand_200 (by decide) ?_
            refine lv_icmp_ne (tgt := 208) hx hb dX9_stand_201 (by decide) (fun c201_18 => ?_) (fun c201_18 => ?_)
            · refine lv_aload_n hx hb dX9_stand_208 rfl (lv_at hl 1 rfl) ?_
              refine fw_get (v := .ref (am 4)) X gC_ok hF hM.2.1 rfl 4 (by decide) wm_483 rfl dX9_stand_209 ?_
              refine lv_iload_n hx hb dX9_stand_212 rfl (lv_at hl 2 rfl) ?_
              refine fw_iald X hF (hM.2.2 4 (Or.inl (by decide))) 0 rfl (show vp_in (nI n) 4 from vp_in_nI (by omega) (by decide)) (v := (M 4) n) (by rw [nI_clamp (by omega)] <;> rfl) dX9_stand_213 ?_
              refine fw_iret X hF hS ?_ (Nat.le_of_ble_eq_true rfl) (Nat.le_of_ble_eq_true rfl) dX9_stand_214
              refine ⟨?_, hM⟩
              unfold spStand
              rw [if_pos c9_2, if_pos c21_4, hin]
              rw [stk7]
              rw [o4] at c187_17 c201_18
              rw [if_neg c201_18, o5 ((hI.1 n hn).2.2.2.1.elim (fun z => absurd z c187_17) (fun z => z.elim (fun z => absurd z c201_18) id))]
            · refine lv_iconst (v := (-1)) hx hb dX9_stand_204 (by decide) ?_
              refine lv_goto (tgt := 214) hx hb dX9_stand_205 (by decide) ?_
              refine fw_iret X hF hS ?_ (Nat.le_of_ble_eq_true rfl) (Nat.le_of_ble_eq_true rfl) dX9_stand_214
              refine ⟨?_, hM⟩
              unfold spStand
              rw [if_pos c9_2, if_pos c21_4, hin]
              rw [stk7]
              rw [o4] at c201_18
              rw [if_pos c201_18]
          · refine lv_iconst (v := 0) hx hb dX9_stand_190 (by decide) ?_
            refine lv_goto (tgt := 214) hx hb dX9_stand_191 (by decide) ?_
            refine fw_iret X hF hS ?_ (Nat.le_of_ble_eq_true rfl) (Nat.le_of_ble_eq_true rfl) dX9_stand_214
            refine ⟨?_, hM⟩
            unfold spStand
            rw [if_pos c9_2, if_pos c21_4, hin]
            rw [stk7]
            rw [o4] at c187_17
            rw [if_neg (by rw [c187_17]; decide), (hI.1 n hn).2.2.2.2 (by rw [c187_17]; decide)]
      · have zb := (bk0 hR hn).mp c33_5
        have zx := (hI.1 n hn).2.2.1 zb
        refine lv_iconst (v := 0) hx hb dX9_stand_36 (by decide) ?_
        refine fw_iret X hF hS ?_ (Nat.le_of_ble_eq_true rfl) (Nat.le_of_ble_eq_true rfl) dX9_stand_37
        refine ⟨?_, hM⟩
        unfold spStand
        rw [if_pos c9_2, if_pos c21_4, hin]
        rw [zx]
        exact congrArg (fun z => some (Value.int z)) (st_zero T k c21_4).symm
    · rw [inn_wi (n := 8) rfl] at c21_4
      refine lv_ldc (v := (-2147483648)) hx hb X.2.2.2.1 (X.2.2.2.2.1 _ wm_674) dX9_stand_24 ?_
      refine fw_iret X hF hS ?_ (Nat.le_of_ble_eq_true rfl) (Nat.le_of_ble_eq_true rfl) dX9_stand_26
      refine ⟨?_, hM⟩
      unfold spStand
      rw [if_pos c9_2, if_neg (by rw [c21_4]; decide)]
