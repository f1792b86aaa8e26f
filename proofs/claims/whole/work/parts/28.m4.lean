theorem nI_ix {b : Int32} (h : 0 ≤ b) : b = nI (ix b) := by
  have h1 := ix_int h
  have h2 := Int32.toInt_lt b
  refine Int32.toInt_inj.mp ?_
  rw [nI_toInt (by omega)]
  exact h1.symm
theorem wi16 {k : Int32} (h : wi k 17 = true) (h2 : k.toInt < 0 ∨ 15 < k.toInt) : k = 16 := by
  have h1 := wi_iff.mp h
  have h4 : (17 : Int32).toInt = 17 := rfl
  rw [gx_i k 16 (a := 16) rfl]
  omega
theorem upd_2 (f : Nat → Int32) (i : Nat) (x y : Int32) : upd (upd f i x) i y = upd f i y := by
  funext j; unfold upd; split <;> rfl
set_option maxHeartbeats 4000000 in
set_option maxRecDepth 100000 in
theorem c_X9_does (l : Launch) (D : va_G) (cs : Nat → ClassId) (w : fW) (sz : Nat) (am : Nat → Nat) (M : Nat → Nat → Int32) (R : aRe) (wy an : Int32) (hM : MWd cs am (M, R, wy, an) w) (sl : Nat → Nat) (T : Sg) (hR : MR sl T M) (hI : Inv T) (q : Nat) (hq : tWh T q = none) (k : Int32) (a : Nat) (b d : Int32) (ha : a < 4) (hok : okS k (nI a) b d = true) : gM l bs_B nw_B D cls10 (tyl cs) yX9_does cX9_does 5 none 3 71 0 0 w sz [.ref (am 28), .int k, .int (nI a), .int b, .int d] (fun v w' => v = none ∧ ∃ M' sl', MWd cs am (M', R, (spAt q k (nI a) b d T).1.1, (spAt q k (nI a) b d T).1.2) w' ∧ MR sl' (spAt q k (nI a) b d T).2 M') := by
  refine gM.of (by decide +kernel) (Nat.le_of_ble_eq_true rfl) (fun p e s m below meth c A ls X hsz hnm hF hS hl => ?_)
  have hx := X.1
  have hb := X.2.1
  have hia : ix (nI a) = a := nI_clamp (by omega)
  have hr8 := spDo_r (q := q) (k := k) (a := nI a) (b := b) (d := d) hI (by omega)
  have tail : ∀ (M9 : Nat → Nat → Int32) (wy9 an9 : Int32) (sl9 : Nat → Nat) (w : fW) (H : Heap) (locs : List Loc) (ls : Array Slot), MWd cs am (M9, R, wy9, an9) w → MR sl9 (spDo q k (nI a) b d T).2 M9 → (spDo q k (nI a) b d T).1 = (wy9, an9) → fw_P D cls10 A w H → va_S A s.heap H locs → lv_has ls 5 [(0, .ref (am 28))] → W p l e ({ frames := 3, cells := 0, slots := 0, locals := 71 } : Room) s m ([.ref (am 28), .int k, .int (nI a), .int b, .int d] : List Value).toArray below meth c H locs 0 0 (MQ below (gQ D cls10 A (fun v w' => v = none ∧ ∃ M' sl', MWd cs am (M', R, (spAt q k (nI a) b d T).1.1, (spAt q k (nI a) b d T).1.2) w' ∧ MR sl' (spAt q k (nI a) b d T).2 M')) ([.ref (am 28), .int k, .int (nI a), .int b, .int d] : List Value).toArray s 0 0 A) (F0 m 394 ls [])  := by
    intro M9 wy9 an9 sl9 w H locs ls hM hS9 hr9 hF hS hl
    have hw8 : wi wy9 8 = true := by rw [hr9] at hr8; exact hr8
    have ewy9 : wy9 = nI (ix wy9) := nI_ix (wi_1 hw8)
    have hix9 : ix wy9 < 8 := wi_lt hw8 (N := 8) (by decide)
    refine lv_aload_n hx hb dX9_does_394 rfl (lv_at hl 0 rfl) ?_
    refine fw_get (v := .int wy9) X gC_ok hF hM.2.1 rfl 26 (by decide) wm_505 rfl dX9_does_395 ?_
    refine lv_if_eq (tgt := 414) hx hb dX9_does_398 (by decide) (fun c398_1 => ?_) (fun c398_1 => ?_)
    · refine fw_vret X hF hS ?_ (Nat.le_of_ble_eq_true rfl) (Nat.le_of_ble_eq_true rfl) dX9_does_414
      refine ⟨rfl, M9, sl9, ?_, ?_⟩
      · rw [show (spAt q k (nI a) b d T).1 = (wy9, an9) from hr9]; exact hM
      · rw [show (spAt q k (nI a) b d T).2 = (spDo q k (nI a) b d T).2 from if_pos (by rw [hr9]; exact c398_1)]; exact hS9
    · refine lv_aload_n hx hb dX9_does_401 rfl (lv_at hl 0 rfl) ?_
      refine fw_get (v := .ref (am 25)) X gC_ok hF hM.2.1 rfl 25 (by decide) wm_504 rfl dX9_does_402 ?_
      refine lv_aload_n hx hb dX9_does_405 rfl (lv_at hl 0 rfl) ?_
      refine fw_get (v := .int wy9) X gC_ok hF hM.2.1 rfl 26 (by decide) wm_505 rfl dX9_does_406 ?_
      refine lv_dup2_11 hx hb dX9_does_409 rfl rfl ?_
      refine fw_iald X hF (hM.2.2 25 (Or.inr rfl)) 0 rfl (wi_in hw8 (N := 8) (by decide)) (v := (M9 25) (ix wy9)) rfl dX9_does_410 ?_
      refine lv_iconst (v := 1) hx hb dX9_does_411 (by decide) ?_
      refine lv_iadd hx hb dX9_does_412 ?_
      refine fw_iast X hF hS (hM.2.2 25 (Or.inr rfl)) 0 rfl (wi_in hw8 (N := 8) (by decide)) dX9_does_413 (fun H locs hF hS => ?_)
      obtain ⟨u2, hu2⟩ : ∃ y : fW, y = va_up w (am 25) (some (.inl (cs 0, 8, .inl (upd (M9 25) (ix wy9) (((M9 25) (ix wy9)) + 1))))) := ⟨_, rfl⟩
      have hM := hM.set 25 (Or.inr rfl) (upd (M9 25) (ix wy9) (((M9 25) (ix wy9)) + 1))
      have hF : fw_P D cls10 A u2 H := by rw [hu2]; exact hF
      have hM : MWd cs am (va_up M9 25 (upd (M9 25) (ix wy9) (((M9 25) (ix wy9)) + 1)), R, wy9, an9) u2 := by rw [hu2]; exact hM
      refine fw_vret X hF hS ?_ (Nat.le_of_ble_eq_true rfl) (Nat.le_of_ble_eq_true rfl) dX9_does_414
      refine ⟨rfl, va_up M9 25 (upd (M9 25) (ix wy9) (((M9 25) (ix wy9)) + 1)), sl9, ?_, ?_⟩
      rotate_left
      · rw [show (spAt q k (nI a) b d T).2 = setTa (spDo q k (nI a) b d T).2 (upd (tTa (spDo q k (nI a) b d T).2) (ix wy9) (tTa (spDo q k (nI a) b d T).2 (ix wy9) + 1)) from (if_neg (by rw [hr9]; exact c398_1)).trans (by rw [hr9])]; exact hS9.ta (wi_lt hw8 (N := 8) (by decide))
      · rw [show (spAt q k (nI a) b d T).1 = (wy9, an9) from hr9]; exact hM
  have hl : lv_has ls 5 [(0, .ref (am 28)), (1, .int k), (2, .int (nI a)), (3, .int b), (4, .int d)] := hl
  refine lv_aload_n hx hb dX9_does_0 rfl (lv_at hl 0 rfl) ?_
  refine lv_iconst (v := 0) hx hb dX9_does_1 (by decide) ?_
  refine fw_put X gC_ok hF hS hM.2.1 rfl 26 (by decide) wm_505 rfl (tf := .int) (by decide +kernel) rfl rfl (Nat.le_of_ble_eq_true rfl) dX9_does_2 (fun H locs hF hS => ?_)
  obtain ⟨u1, hu1⟩ : ∃ y : fW, y = va_up w (am 28) (some (mObj am (M, R, 0, an))) := ⟨_, rfl⟩
  have hM := hM.obj R 0 an
  have hF : fw_P D cls10 A u1 H := by rw [hu1]; exact hF
  have hM : MWd cs am (M, R, 0, an) u1 := by rw [hu1]; exact hM
  refine lv_aload_n hx hb dX9_does_5 rfl (lv_at hl 0 rfl) ?_
  refine lv_iconst (v := 0) hx hb dX9_does_6 (by decide) ?_
  refine fw_put X gC_ok hF hS hM.2.1 rfl 27 (by decide) wm_506 rfl (tf := .int) (by decide +kernel) rfl rfl (Nat.le_of_ble_eq_true rfl) dX9_does_7 (fun H locs hF hS => ?_)
  obtain ⟨u2, hu2⟩ : ∃ y : fW, y = va_up u1 (am 28) (some (mObj am (M, R, 0, 0))) := ⟨_, rfl⟩
  have hM := hM.obj R 0 0
  have hF : fw_P D cls10 A u2 H := by rw [hu2]; exact hF
  have hM : MWd cs am (M, R, 0, 0) u2 := by rw [hu2]; exact hM
  refine lv_iload_n hx hb dX9_does_10 rfl (lv_at hl 1 rfl) ?_
  rcases gx_sw16 k with sw3 | sw3 | sw3 | sw3 | sw3 | sw3 | sw3 | sw3 | sw3 | sw3 | sw3 | sw3 | sw3 | sw3 | sw3 | sw3 | sw3
  · refine lv_tableIn (off := 77) (tgt := 88) hx hb dX9_does_11 (by rw [sw3]; decide) (by rw [sw3]; decide) (by rw [sw3]; rfl) (by decide) ?_
    subst sw3
    have hl : lv_has ls 5 [(0, .ref (am 28)), (1, .int 0), (2, .int (nI a)), (3, .int b), (4, .int d)] := hl
    refine lv_aload_n hx hb dX9_does_88 rfl (lv_at hl 0 rfl) ?_
    refine lv_iload_n hx hb dX9_does_89 rfl (lv_at hl 2 rfl) ?_
    refine lv_iload_n hx hb dX9_does_90 rfl (lv_at hl 3 rfl) ?_
    refine fw_callV (As := [.int (nI a), .int b]) (rest := []) X bs_all nw_all mf_X9_build (c_X9_build l D cs _ _ am M R 0 0 hM a b ha) wm_582 wm_584 wm_8 hF hS rfl hM.2.1 rfl rfl ((⟨⟨Nat.le_of_ble_eq_true rfl, Nat.le_of_ble_eq_true rfl⟩, Nat.le_of_ble_eq_true rfl, Nat.le_of_ble_eq_true rfl⟩)) rfl hl.1 rfl (Nat.le_of_ble_eq_true rfl) dX9_does_91 (fun v u4 H locs hp hF hS hz1 hk1 hd1 => ?_)
    obtain ⟨hv1, hM⟩ := hp
    subst hv1
    have hM : MWd cs am (va_up (va_up (va_up (va_up M 0 (upd (M 0) a 1)) 1 (upd (M 1) a b)) 2 (upd (upd (M 2) (2 * a) (-1)) (2 * a + 1) (-1))) 3 (upd (M 3) a 0), R, 0, b) u4 := hM
    refine W.eq (g2 := F0 m 94 ls []) rfl ?_
    refine lv_goto (tgt := 394) hx hb dX9_does_94 (by decide) ?_
    have e9 : spDo q 0 (nI a) b d T = ((0, b), setSt T a (true, b, none, none, 0, 0)) := by rw [show spDo q 0 (nI a) b d T = ((0, b), setSt T (ix (nI a)) (true, b, none, none, 0, 0)) from rfl, hia]
    exact tail (va_up (va_up (va_up (va_up M 0 (upd (M 0) a 1)) 1 (upd (M 1) a b)) 2 (upd (upd (M 2) (2 * a) (-1)) (2 * a + 1) (-1))) 3 (upd (M 3) a 0)) 0 b sl _ _ _ ls hM (by rw [e9]; exact hR.base ha true rfl b) (by rw [e9]) hF hS (lv_sub hl [0] rfl)
  · refine lv_tableIn (off := 86) (tgt := 97) hx hb dX9_does_11 (by rw [sw3]; decide) (by rw [sw3]; decide) (by rw [sw3]; rfl) (by decide) ?_
    subst sw3
    have hl : lv_has ls 5 [(0, .ref (am 28)), (1, .int 1), (2, .int (nI a)), (3, .int b), (4, .int d)] := hl
    refine lv_aload_n hx hb dX9_does_97 rfl (lv_at hl 0 rfl) ?_
    refine fw_get (v := .ref (am 0)) X gC_ok hF hM.2.1 rfl 0 (by decide) wm_479 rfl dX9_does_98 ?_
    refine lv_iload_n hx hb dX9_does_101 rfl (lv_at hl 2 rfl) ?_
    refine lv_iconst (v := 0) hx hb dX9_does_102 (by decide) ?_
    refine fw_zast X hF hS (hM.2.2 0 (Or.inl (by decide))) 1 rfl (show vp_in (nI a) 4 from vp_in_nI (by omega) (by decide)) (v := 0) rfl dX9_does_103 (fun H locs hF hS => ?_)
    rw [show (nI a).toNatClampNeg = a from nI_clamp (by omega)] at hF
    obtain ⟨u5, hu5⟩ : ∃ y : fW, y = va_up u2 (am 0) (some (.inl (cs 1, 4, .inl (upd (M 0) a 0)))) := ⟨_, rfl⟩
    have hM := hM.set 0 (Or.inl (by decide)) (upd (M 0) a 0)
    have hF : fw_P D cls10 A u5 H := by rw [hu5]; exact hF
    have hM : MWd cs am (va_up M 0 (upd (M 0) a 0), R, 0, 0) u5 := by rw [hu5]; exact hM
    refine lv_aload_n hx hb dX9_does_104 rfl (lv_at hl 0 rfl) ?_
    refine fw_get (v := .ref (am 1)) X gC_ok hF hM.2.1 rfl 1 (by decide) wm_480 rfl dX9_does_105 ?_
    refine lv_iload_n hx hb dX9_does_108 rfl (lv_at hl 2 rfl) ?_
    refine lv_iconst (v := 0) hx hb dX9_does_109 (by decide) ?_
    refine fw_iast X hF hS (hM.2.2 1 (Or.inl (by decide))) 0 rfl (show vp_in (nI a) 4 from vp_in_nI (by omega) (by decide)) dX9_does_110 (fun H locs hF hS => ?_)
    rw [show (nI a).toNatClampNeg = a from nI_clamp (by omega)] at hF
    obtain ⟨u6, hu6⟩ : ∃ y : fW, y = va_up u5 (am 1) (some (.inl (cs 0, 4, .inl (upd (M 1) a 0)))) := ⟨_, rfl⟩
    have hM := hM.set 1 (Or.inl (by decide)) (upd (M 1) a 0)
    have hF : fw_P D cls10 A u6 H := by rw [hu6]; exact hF
    have hM : MWd cs am (va_up (va_up M 0 (upd (M 0) a 0)) 1 (upd (M 1) a 0), R, 0, 0) u6 := by rw [hu6]; exact hM
    refine lv_aload_n hx hb dX9_does_111 rfl (lv_at hl 0 rfl) ?_
    refine lv_iload_n hx hb dX9_does_112 rfl (lv_at hl 2 rfl) ?_
    refine fw_callV (As := [.int (nI a)]) (rest := []) X bs_all nw_all mf_X9_strip (c_X9_strip l D cs _ _ am (va_up (va_up M 0 (upd (M 0) a 0)) 1 (upd (M 1) a 0)) R 0 0 hM a ha) wm_586 wm_588 wm_9 hF hS rfl hM.2.1 rfl rfl ((⟨⟨Nat.le_of_ble_eq_true rfl, Nat.le_of_ble_eq_true rfl⟩, Nat.le_of_ble_eq_true rfl, Nat.le_of_ble_eq_true rfl⟩)) rfl hl.1 rfl (Nat.le_of_ble_eq_true rfl) dX9_does_113 (fun v u7 H locs hp hF hS hz1 hk1 hd1 => ?_)
    obtain ⟨hv1, hM⟩ := hp
    subst hv1
    have hM : MWd cs am (va_up (va_up (va_up (va_up M 0 (upd (M 0) a 0)) 1 (upd (M 1) a 0)) 2 (upd (upd (M 2) (2 * a) (-1)) (2 * a + 1) (-1))) 3 (upd (M 3) a 0), R, 0, 1) u7 := hM
    refine W.eq (g2 := F0 m 116 ls []) rfl ?_
    refine lv_goto (tgt := 394) hx hb dX9_does_116 (by decide) ?_
    have e9 : spDo q 1 (nI a) b d T = ((0, 1), setSt T a (false, 0, none, none, 0, 0)) := by rw [show spDo q 1 (nI a) b d T = ((0, 1), setSt T (ix (nI a)) (false, 0, none, none, 0, 0)) from rfl, hia]
    exact tail (va_up (va_up (va_up (va_up M 0 (upd (M 0) a 0)) 1 (upd (M 1) a 0)) 2 (upd (upd (M 2) (2 * a) (-1)) (2 * a + 1) (-1))) 3 (upd (M 3) a 0)) 0 1 sl _ _ _ ls hM (by rw [e9]; exact hR.base ha false rfl 0) (by rw [e9]) hF hS (lv_sub hl [0] rfl)
  · refine lv_tableIn (off := 108) (tgt := 119) hx hb dX9_does_11 (by rw [sw3]; decide) (by rw [sw3]; decide) (by rw [sw3]; rfl) (by decide) ?_
    subst sw3
    have hl : lv_has ls 5 [(0, .ref (am 28)), (1, .int 2), (2, .int (nI a)), (3, .int b), (4, .int d)] := hl
    refine lv_aload_n hx hb dX9_does_119 rfl (lv_at hl 0 rfl) ?_
    refine lv_iload_n hx hb dX9_does_120 rfl (lv_at hl 2 rfl) ?_
    refine lv_iload_n hx hb dX9_does_121 rfl (lv_at hl 3 rfl) ?_
    refine lv_iload hx hb dX9_does_122 (lv_at hl 4 rfl) ?_
    refine fw_callV (As := [.int (nI a), .int b, .int d]) (rest := []) X bs_all nw_all mf_X9_fit (c_X9_fit l D cs _ _ am M R 0 0 hM a b d ha (fun _ => free_slot _)) wm_590 wm_592 wm_10 hF hS rfl hM.2.1 rfl rfl ((⟨⟨Nat.le_of_ble_eq_true rfl, Nat.le_of_ble_eq_true rfl⟩, Nat.le_of_ble_eq_true rfl, Nat.le_of_ble_eq_true rfl⟩)) rfl hl.1 rfl (Nat.le_of_ble_eq_true rfl) dX9_does_124 (fun v u8 H locs hp hF hS hz1 hk1 hd1 => ?_)
    rcases hp with ⟨k1, rfl, hM⟩ | ⟨k1, k2, rfl, hM⟩ | ⟨k1, k2, n, k3, k4, rfl, hM⟩
    · have hM : MWd cs am (M, R, 1, 0) u8 := hM
      refine W.eq (g2 := F0 m 127 ls []) rfl ?_
      refine lv_goto (tgt := 394) hx hb dX9_does_127 (by decide) ?_
      have f9 : spDo q 2 (nI a) b d T = spFit q (nI a) b d T := rfl
      have z0 := (bk0 hR ha).mp k1
      have e9 : spDo q 2 (nI a) b d T = ((1, 0), T) := by rw [f9]; unfold spFit; rw [hia, if_pos z0]
      exact tail M 1 0 sl _ _ _ ls hM (by rw [e9]; exact hR) (by rw [e9]) hF hS (lv_sub hl [0] rfl)
    · have hM : MWd cs am (va_up M 2 (upd (upd (M 2) (2 * a + sb b) (-1)) (2 * a + sb b) (-1)), R, 0, d) u8 := hM
      refine W.eq (g2 := F0 m 127 ls []) rfl ?_
      refine lv_goto (tgt := 394) hx hb dX9_does_127 (by decide) ?_
      have f9 : spDo q 2 (nI a) b d T = spFit q (nI a) b d T := rfl
      have z0 : ¬ (tSt T a).1 = false := fun z => k1 ((bk0 hR ha).mpr z)
      have e9 : spDo q 2 (nI a) b d T = ((0, d), setSt T a (sdset b (tSt T a) none)) := by rw [f9]; unfold spFit; rw [hia, if_neg z0, if_pos k2]
      rw [upd_2] at hM
      exact tail (va_up M 2 (upd (M 2) (2 * a + sb b) (-1))) 0 d sl _ _ _ ls hM (by rw [e9]; exact hR.fit0 ha b) (by rw [e9]) hF hS (lv_sub hl [0] rfl)
    · have hM : MWd cs am (va_up (va_up (va_up (va_up (va_up M 2 (upd (M 2) (2 * a + sb b) (-1))) 7 (upd (M 7) n (bz (whN d).2.1))) 5 (upd (M 5) n (whN d).1)) 6 (upd (M 6) n 0)) 2 (upd (upd (M 2) (2 * a + sb b) (-1)) (2 * a + sb b) (nI n)), R, 0, d) u8 := hM
      refine W.eq (g2 := F0 m 127 ls []) rfl ?_
      refine lv_goto (tgt := 394) hx hb dX9_does_127 (by decide) ?_
      have f9 : spDo q 2 (nI a) b d T = spFit q (nI a) b d T := rfl
      have z0 : ¬ (tSt T a).1 = false := fun z => k1 ((bk0 hR ha).mpr z)
      have e9 : spDo q 2 (nI a) b d T = ((0, d), setSt (setWh T q (whN d)) a (sdset b (tSt T a) (some q))) := by rw [f9]; unfold spFit; rw [hia, if_neg z0, if_neg k2]
      exact tail (va_up (va_up (va_up (va_up (va_up M 2 (upd (M 2) (2 * a + sb b) (-1))) 7 (upd (M 7) n (bz (whN d).2.1))) 5 (upd (M 5) n (whN d).1)) 6 (upd (M 6) n 0)) 2 (upd (upd (M 2) (2 * a + sb b) (-1)) (2 * a + sb b) (nI n))) 0 d (va_up sl q n) _ _ _ ls hM (by rw [e9]; exact hR.fit1 hI ha b d hq k3 k4) (by rw [e9]) hF hS (lv_sub hl [0] rfl)
  · refine lv_tableIn (off := 119) (tgt := 130) hx hb dX9_does_11 (by rw [sw3]; decide) (by rw [sw3]; decide) (by rw [sw3]; rfl) (by decide) ?_
    subst sw3
    have hl : lv_has ls 5 [(0, .ref (am 28)), (1, .int 3), (2, .int (nI a)), (3, .int b), (4, .int d)] := hl
    refine lv_aload_n hx hb dX9_does_130 rfl (lv_at hl 0 rfl) ?_
    refine lv_iload_n hx hb dX9_does_131 rfl (lv_at hl 2 rfl) ?_
    refine lv_iload_n hx hb dX9_does_132 rfl (lv_at hl 3 rfl) ?_
    refine lv_iload_n hx hb dX9_does_133 rfl (lv_at hl 1 rfl) ?_
    refine lv_iconst (v := 4) hx hb dX9_does_134 (by decide) ?_
    refine lv_icmp_ne (tgt := 142) hx hb dX9_does_135 (by decide) (fun _ => ?_) (fun h => absurd h (by decide))
    refine lv_iconst (v := 0) hx hb dX9_does_142 (by decide) ?_
    refine fw_callV (As := [.int (nI a), .int b, .int 0]) (rest := []) X bs_all nw_all mf_X9_turn (c_X9_turn l D cs _ _ am M R 0 0 hM a b false ha (fun _ z => hR.slot (fun _ e => sd_liv ha e) (hR.wheel ha b) z)) wm_606 wm_608 wm_14 hF hS rfl hM.2.1 rfl rfl ((⟨⟨Nat.le_of_ble_eq_true rfl, Nat.le_of_ble_eq_true rfl⟩, Nat.le_of_ble_eq_true rfl, Nat.le_of_ble_eq_true rfl⟩)) rfl hl.1 rfl (Nat.le_of_ble_eq_true rfl) dX9_does_143 (fun v u10 H locs hp hF hS hz1 hk1 hd1 => ?_)
    rcases hp with ⟨k1, rfl, hM⟩ | ⟨k1, k2, s9, k3, k4, rfl, hM⟩ | ⟨k1, k2, s9, k3, k4, rfl, hM⟩
    · have hM : MWd cs am (M, R, 1, 0) u10 := hM
      refine W.eq (g2 := F0 m 146 ls []) rfl ?_
      refine lv_goto (tgt := 394) hx hb dX9_does_146 (by decide) ?_
      have f9 : spDo q 3 (nI a) b d T = spTrue b (tSt T (ix (nI a))) T := rfl
      rw [hia] at f9
      have z0 : sdw b (tSt T a).2.2.1 (tSt T a).2.2.2.1 = none := k1.elim (fun z => sdw0 hI ha b ((bk0 hR ha).mp z)) (fun z => (slI_1 hR (fun _ e => sd_liv ha e)).mp ((hR.wheel ha b).symm.trans z))
      have e9 : spDo q 3 (nI a) b d T = ((1, 0), T) := by rw [f9]; unfold spTrue; rw [z0]
      exact tail M 1 0 sl _ _ _ ls hM (by rw [e9]; exact hR) (by rw [e9]) hF hS (lv_sub hl [0] rfl)
    · have hM : MWd cs am (M, R, 0, M 5 s9) u10 := hM
      refine W.eq (g2 := F0 m 146 ls []) rfl ?_
      refine lv_goto (tgt := 394) hx hb dX9_does_146 (by decide) ?_
      have f9 : spDo q 3 (nI a) b d T = spTrue b (tSt T (ix (nI a))) T := rfl
      rw [hia] at f9
      exact absurd k2 (by decide)
    · have hM : MWd cs am (va_up M 6 (upd (M 6) s9 (M 6 s9 + 1)), R, 0, (M 6 s9 + 1) * M 5 s9 + mBit (M 7 s9)) u10 := hM
      refine W.eq (g2 := F0 m 146 ls []) rfl ?_
      refine lv_goto (tgt := 394) hx hb dX9_does_146 (by decide) ?_
      have f9 : spDo q 3 (nI a) b d T = spTrue b (tSt T (ix (nI a))) T := rfl
      rw [hia] at f9
      obtain ⟨r9, e1, hl9, e3⟩ := hR.slotq (fun _ e => sd_liv ha e) (hR.wheel ha b) k3 k4
      subst e3
      obtain ⟨p0, p1, p2⟩ := (hR.2.1 r9 hl9).2
      rw [p0, p1, p2, mBit_bz] at hM
      have e9 : spDo q 3 (nI a) b d T = ((0, whT (W9 T r9)), setWh T r9 ((W9 T r9).1, (W9 T r9).2.1, (W9 T r9).2.2 + 1)) := by rw [f9]; unfold spTrue; rw [e1]
      exact tail (va_up M 6 (upd (M 6) (sl r9) ((W9 T r9).2.2 + 1))) 0 (((W9 T r9).2.2 + 1) * (W9 T r9).1 + bz (W9 T r9).2.1) sl _ _ _ ls hM (by rw [e9]; exact hR.wh hl9 _) (by rw [e9]; rfl) hF hS (lv_sub hl [0] rfl)
  · refine lv_tableIn (off := 119) (tgt := 130) hx hb dX9_does_11 (by rw [sw3]; decide) (by rw [sw3]; decide) (by rw [sw3]; rfl) (by decide) ?_
    subst sw3
    have hl : lv_has ls 5 [(0, .ref (am 28)), (1, .int 4), (2, .int (nI a)), (3, .int b), (4, .int d)] := hl
    refine lv_aload_n hx hb dX9_does_130 rfl (lv_at hl 0 rfl) ?_
    refine lv_iload_n hx hb dX9_does_131 rfl (lv_at hl 2 rfl) ?_
    refine lv_iload_n hx hb dX9_does_132 rfl (lv_at hl 3 rfl) ?_
    refine lv_iload_n hx hb dX9_does_133 rfl (lv_at hl 1 rfl) ?_
    refine lv_iconst (v := 4) hx hb dX9_does_134 (by decide) ?_
    refine lv_icmp_ne (tgt := 142) hx hb dX9_does_135 (by decide) (fun h => absurd h (by decide)) (fun _ => ?_)
    refine lv_iconst (v := 1) hx hb dX9_does_138 (by decide) ?_
    refine lv_goto (tgt := 143) hx hb dX9_does_139 (by decide) ?_
    refine fw_callV (As := [.int (nI a), .int b, .int 1]) (rest := []) X bs_all nw_all mf_X9_turn (c_X9_turn l D cs _ _ am M R 0 0 hM a b true ha (fun _ z => hR.slot (fun _ e => sd_liv ha e) (hR.wheel ha b) z)) wm_606 wm_608 wm_14 hF hS rfl hM.2.1 rfl rfl ((⟨⟨Nat.le_of_ble_eq_true rfl, Nat.le_of_ble_eq_true rfl⟩, Nat.le_of_ble_eq_true rfl, Nat.le_of_ble_eq_true rfl⟩)) rfl hl.1 rfl (Nat.le_of_ble_eq_true rfl) dX9_does_143 (fun v u12 H locs hp hF hS hz1 hk1 hd1 => ?_)
    rcases hp with ⟨k1, rfl, hM⟩ | ⟨k1, k2, s9, k3, k4, rfl, hM⟩ | ⟨k1, k2, s9, k3, k4, rfl, hM⟩
    · have hM : MWd cs am (M, R, 1, 0) u12 := hM
      refine W.eq (g2 := F0 m 146 ls []) rfl ?_
      refine lv_goto (tgt := 394) hx hb dX9_does_146 (by decide) ?_
      have f9 : spDo q 4 (nI a) b d T = spCount b (tSt T (ix (nI a))) T := rfl
      rw [hia] at f9
      have z0 : sdw b (tSt T a).2.2.1 (tSt T a).2.2.2.1 = none := k1.elim (fun z => sdw0 hI ha b ((bk0 hR ha).mp z)) (fun z => (slI_1 hR (fun _ e => sd_liv ha e)).mp ((hR.wheel ha b).symm.trans z))
      have e9 : spDo q 4 (nI a) b d T = ((1, 0), T) := by rw [f9]; unfold spCount; rw [z0]
      exact tail M 1 0 sl _ _ _ ls hM (by rw [e9]; exact hR) (by rw [e9]) hF hS (lv_sub hl [0] rfl)
    · have hM : MWd cs am (M, R, 0, M 5 s9) u12 := hM
      refine W.eq (g2 := F0 m 146 ls []) rfl ?_
      refine lv_goto (tgt := 394) hx hb dX9_does_146 (by decide) ?_
      have f9 : spDo q 4 (nI a) b d T = spCount b (tSt T (ix (nI a))) T := rfl
      rw [hia] at f9
      obtain ⟨r9, e1, hl9, e3⟩ := hR.slotq (fun _ e => sd_liv ha e) (hR.wheel ha b) k3 k4
      subst e3
      obtain ⟨p0, p1, p2⟩ := (hR.2.1 r9 hl9).2
      rw [p0] at hM
      have e9 : spDo q 4 (nI a) b d T = ((0, (W9 T r9).1), T) := by rw [f9]; unfold spCount; rw [e1]
      exact tail M 0 ((W9 T r9).1) sl _ _ _ ls hM (by rw [e9]; exact hR) (by rw [e9]) hF hS (lv_sub hl [0] rfl)
    · have hM : MWd cs am (va_up M 6 (upd (M 6) s9 (M 6 s9 + 1)), R, 0, (M 6 s9 + 1) * M 5 s9 + mBit (M 7 s9)) u12 := hM
      refine W.eq (g2 := F0 m 146 ls []) rfl ?_
      refine lv_goto (tgt := 394) hx hb dX9_does_146 (by decide) ?_
      have f9 : spDo q 4 (nI a) b d T = spCount b (tSt T (ix (nI a))) T := rfl
      rw [hia] at f9
      exact absurd k2 (by decide)
  · refine lv_tableIn (off := 138) (tgt := 149) hx hb dX9_does_11 (by rw [sw3]; decide) (by rw [sw3]; decide) (by rw [sw3]; rfl) (by decide) ?_
    subst sw3
    have hl : lv_has ls 5 [(0, .ref (am 28)), (1, .int 5), (2, .int (nI a)), (3, .int b), (4, .int d)] := hl
    refine lv_aload_n hx hb dX9_does_149 rfl (lv_at hl 0 rfl) ?_
    refine lv_iload_n hx hb dX9_does_150 rfl (lv_at hl 2 rfl) ?_
    refine lv_iload_n hx hb dX9_does_151 rfl (lv_at hl 3 rfl) ?_
    refine lv_iload hx hb dX9_does_152 (lv_at hl 4 rfl) ?_
    refine fw_callV (As := [.int (nI a), .int b, .int d]) (rest := []) X bs_all nw_all mf_X9_light (c_X9_light l D cs _ _ am M R 0 0 hM a b d ha) wm_610 wm_612 wm_15 hF hS rfl hM.2.1 rfl rfl ((⟨⟨Nat.le_of_ble_eq_true rfl, Nat.le_of_ble_eq_true rfl⟩, Nat.le_of_ble_eq_true rfl, Nat.le_of_ble_eq_true rfl⟩)) rfl hl.1 rfl (Nat.le_of_ble_eq_true rfl) dX9_does_154 (fun v u13 H locs hp hF hS hz1 hk1 hd1 => ?_)
    rcases hp with ⟨k1, rfl, hM⟩ | ⟨k1, rfl, hM⟩
    · have hM : MWd cs am (M, R, 1, 0) u13 := hM
      refine W.eq (g2 := F0 m 157 ls []) rfl ?_
      refine lv_goto (tgt := 394) hx hb dX9_does_157 (by decide) ?_
      have f9 : spDo q 5 (nI a) b d T = ((spLight (tSt T (ix (nI a))) b d).1, setSt T (ix (nI a)) (spLight (tSt T (ix (nI a))) b d).2) := rfl
      rw [hia] at f9
      have z0 := (bk0 hR ha).mp k1
      have y9 : spLight (tSt T a) b d = ((1, 0), tSt T a) := by unfold spLight; rw [if_pos z0]
      have e9 : spDo q 5 (nI a) b d T = ((1, 0), T) := by rw [f9, y9]; exact congrArg (Prod.mk _) (uSt T a)
      exact tail M 1 0 sl _ _ _ ls hM (by rw [e9]; exact hR) (by rw [e9]) hF hS (lv_sub hl [0] rfl)
    · have hM : MWd cs am (va_up (va_up M 3 (upd (M 3) a (lmp b))) 4 (upd (M 4) a d), R, 0, b) u13 := hM
      refine W.eq (g2 := F0 m 157 ls []) rfl ?_
      refine lv_goto (tgt := 394) hx hb dX9_does_157 (by decide) ?_
      have f9 : spDo q 5 (nI a) b d T = ((spLight (tSt T (ix (nI a))) b d).1, setSt T (ix (nI a)) (spLight (tSt T (ix (nI a))) b d).2) := rfl
      rw [hia] at f9
      have z0 : ¬ (tSt T a).1 = false := fun z => k1 ((bk0 hR ha).mpr z)
      have y9 : (spLight (tSt T a) b d).1 = (0, b) := by unfold spLight; rw [if_neg z0]
      have e9 : spDo q 5 (nI a) b d T = ((0, b), setSt T a (spLight (tSt T a) b d).2) := by rw [f9, y9]
      exact tail (va_up (va_up M 3 (upd (M 3) a (lmp b))) 4 (upd (M 4) a d)) 0 b sl _ _ _ ls hM (by rw [e9]; exact hR.light ha b d z0) (by rw [e9]) hF hS (lv_sub hl [0] rfl)
  · refine lv_tableIn (off := 149) (tgt := 160) hx hb dX9_does_11 (by rw [sw3]; decide) (by rw [sw3]; decide) (by rw [sw3]; rfl) (by decide) ?_
    subst sw3
    have hl : lv_has ls 5 [(0, .ref (am 28)), (1, .int 6), (2, .int (nI a)), (3, .int b), (4, .int d)] := hl
    refine lv_aload_n hx hb dX9_does_160 rfl (lv_at hl 0 rfl) ?_
    refine lv_iload_n hx hb dX9_does_161 rfl (lv_at hl 2 rfl) ?_
    refine lv_iload_n hx hb dX9_does_162 rfl (lv_at hl 3 rfl) ?_
    refine fw_callV (As := [.int (nI a), .int b]) (rest := []) X bs_all nw_all mf_X9_shine (c_X9_shine l D cs _ _ am M R 0 0 hM a b ha) wm_614 wm_616 wm_16 hF hS rfl hM.2.1 rfl rfl ((⟨⟨Nat.le_of_ble_eq_true rfl, Nat.le_of_ble_eq_true rfl⟩, Nat.le_of_ble_eq_true rfl, Nat.le_of_ble_eq_true rfl⟩)) rfl hl.1 rfl (Nat.le_of_ble_eq_true rfl) dX9_does_163 (fun v u14 H locs hp hF hS hz1 hk1 hd1 => ?_)
    rcases hp with ⟨k1, rfl, hM⟩ | ⟨k1, rfl, hM⟩
    · have hM : MWd cs am (M, R, 1, 0) u14 := hM
      refine W.eq (g2 := F0 m 166 ls []) rfl ?_
      refine lv_goto (tgt := 394) hx hb dX9_does_166 (by decide) ?_
      have f9 : spDo q 6 (nI a) b d T = ((spShine (tSt T (ix (nI a))) b).1, setSt T (ix (nI a)) (spShine (tSt T (ix (nI a))) b).2) := rfl
      rw [hia] at f9
      have z0 : (tSt T a).2.2.2.2.1 = 0 := k1.elim (fun z => lamp0 hI ha ((bk0 hR ha).mp z)) (fun z => (hR.1 a ha).2.2.2.2.1.symm.trans z)
      have y9 : spShine (tSt T a) b = ((1, 0), tSt T a) := by unfold spShine; rw [if_pos z0]
      have e9 : spDo q 6 (nI a) b d T = ((1, 0), T) := by rw [f9, y9]; exact congrArg (Prod.mk _) (uSt T a)
      exact tail M 1 0 sl _ _ _ ls hM (by rw [e9]; exact hR) (by rw [e9]) hF hS (lv_sub hl [0] rfl)
    · have hM : MWd cs am (va_up M 4 (upd (M 4) a (if M 3 a = 2 ∧ 0 < M 4 a then M 4 a - 1 else M 4 a)), R, 0, if M 3 a = 1 then 3 * b else if 0 < M 4 a then b else 0) u14 := hM
      refine W.eq (g2 := F0 m 166 ls []) rfl ?_
      refine lv_goto (tgt := 394) hx hb dX9_does_166 (by decide) ?_
      have f9 : spDo q 6 (nI a) b d T = ((spShine (tSt T (ix (nI a))) b).1, setSt T (ix (nI a)) (spShine (tSt T (ix (nI a))) b).2) := rfl
      rw [hia] at f9
      have z0 : ¬ (tSt T a).2.2.2.2.1 = 0 := fun z => k1 (Or.inr ((hR.1 a ha).2.2.2.2.1.trans z))
      have y9 := hR.shine hI ha b z0
      have e9 : spDo q 6 (nI a) b d T = ((0, if M 3 a = 1 then 3 * b else if 0 < M 4 a then b else 0), setSt T a (spShine (tSt T a) b).2) := by rw [f9, y9.2]
      exact tail (va_up M 4 (upd (M 4) a (if M 3 a = 2 ∧ 0 < M 4 a then M 4 a - 1 else M 4 a))) 0 (if M 3 a = 1 then 3 * b else if 0 < M 4 a then b else 0) sl _ _ _ ls hM (by rw [e9]; exact y9.1) (by rw [e9]) hF hS (lv_sub hl [0] rfl)
  · refine lv_tableIn (off := 158) (tgt := 169) hx hb dX9_does_11 (by rw [sw3]; decide) (by rw [sw3]; decide) (by rw [sw3]; rfl) (by decide) ?_
    subst sw3
    have hl : lv_has ls 5 [(0, .ref (am 28)), (1, .int 7), (2, .int (nI a)), (3, .int b), (4, .int d)] := hl
    refine lv_aload_n hx hb dX9_does_169 rfl (lv_at hl 0 rfl) ?_
    refine lv_iload_n hx hb dX9_does_170 rfl (lv_at hl 1 rfl) ?_
    refine lv_iload_n hx hb dX9_does_171 rfl (lv_at hl 2 rfl) ?_
    refine lv_iload_n hx hb dX9_does_172 rfl (lv_at hl 3 rfl) ?_
    refine lv_iload hx hb dX9_does_173 (lv_at hl 4 rfl) ?_
    refine fw_callV (As := [.int 7, .int (nI a), .int b, .int d]) (rest := []) X bs_all nw_all mf_X9_make (c_X9_make l D cs _ _ am M R 0 0 hM 7 a b d ha) wm_618 wm_620 wm_17 hF hS rfl hM.2.1 rfl rfl ((⟨⟨Nat.le_of_ble_eq_true rfl, Nat.le_of_ble_eq_true rfl⟩, Nat.le_of_ble_eq_true rfl, Nat.le_of_ble_eq_true rfl⟩)) rfl hl.1 rfl (Nat.le_of_ble_eq_true rfl) dX9_does_175 (fun v u15 H locs hp hF hS hz1 hk1 hd1 => ?_)
    rcases hp with ⟨k1, rfl, hM⟩ | ⟨k1, k2, rfl, hM⟩ | ⟨k1, k2, k3, rfl, hM⟩ | ⟨k1, k2, k3, rfl, hM⟩
    · have hM : MWd cs am (M, R, 2, 0) u15 := hM
      refine W.eq (g2 := F0 m 178 ls []) rfl ?_
      refine lv_goto (tgt := 394) hx hb dX9_does_178 (by decide) ?_
      have f9 : spDo q 7 (nI a) b d T = (if b < 0 then ((2, 0), T) else ((0, b), setBa T (ix (nI a)) (b, fun _ => 0))) := rfl
      rw [hia] at f9
      have z0 : b < 0 := k1.elim id (fun z => absurd z.1 (by decide))
      have e9 : spDo q 7 (nI a) b d T = ((2, 0), T) := by rw [f9, if_pos z0]
      exact tail M 2 0 sl _ _ _ ls hM (by rw [e9]; exact hR) (by rw [e9]) hF hS (lv_sub hl [0] rfl)
    · have hM : MWd cs am (va_up (va_up M 8 (upd (M 8) a b)) 9 (fill (M 9) (20 * a) 20 0), R, 0, b) u15 := hM
      refine W.eq (g2 := F0 m 178 ls []) rfl ?_
      refine lv_goto (tgt := 394) hx hb dX9_does_178 (by decide) ?_
      have f9 : spDo q 7 (nI a) b d T = (if b < 0 then ((2, 0), T) else ((0, b), setBa T (ix (nI a)) (b, fun _ => 0))) := rfl
      rw [hia] at f9
      have z0 : ¬ (b < 0) := fun z => k1 (Or.inl z)
      have e9 : spDo q 7 (nI a) b d T = ((0, b), setBa T a (b, fun _ => 0)) := by rw [f9, if_neg z0]
      exact tail (va_up (va_up M 8 (upd (M 8) a b)) 9 (fill (M 9) (20 * a) 20 0)) 0 b sl _ _ _ ls hM (by rw [e9]; exact hR.mk7 b) (by rw [e9]) hF hS (lv_sub hl [0] rfl)
    · have hM : MWd cs am (va_up (va_up (va_up M 10 (upd (M 10) a b)) 11 (upd (M 11) a (bz (decide (d &&& 1 = 1))))) 12 (fill (M 12) (20 * a) 20 (-1)), R, 0, b) u15 := hM
      refine W.eq (g2 := F0 m 178 ls []) rfl ?_
      refine lv_goto (tgt := 394) hx hb dX9_does_178 (by decide) ?_
      have f9 : spDo q 7 (nI a) b d T = (if b < 0 then ((2, 0), T) else ((0, b), setBa T (ix (nI a)) (b, fun _ => 0))) := rfl
      rw [hia] at f9
      exact absurd k3 (by decide)
    · have hM : MWd cs am (va_up (va_up (va_up M 13 (upd (M 13) a b)) 14 (upd (M 14) a d)) 15 (fill (M 15) (400 * a) 400 0), R, 0, b) u15 := hM
      refine W.eq (g2 := F0 m 178 ls []) rfl ?_
      refine lv_goto (tgt := 394) hx hb dX9_does_178 (by decide) ?_
      have f9 : spDo q 7 (nI a) b d T = (if b < 0 then ((2, 0), T) else ((0, b), setBa T (ix (nI a)) (b, fun _ => 0))) := rfl
      rw [hia] at f9
      exact absurd rfl k2
  · refine lv_tableIn (off := 158) (tgt := 169) hx hb dX9_does_11 (by rw [sw3]; decide) (by rw [sw3]; decide) (by rw [sw3]; rfl) (by decide) ?_
    subst sw3
    have hl : lv_has ls 5 [(0, .ref (am 28)), (1, .int 8), (2, .int (nI a)), (3, .int b), (4, .int d)] := hl
    refine lv_aload_n hx hb dX9_does_169 rfl (lv_at hl 0 rfl) ?_
    refine lv_iload_n hx hb dX9_does_170 rfl (lv_at hl 1 rfl) ?_
    refine lv_iload_n hx hb dX9_does_171 rfl (lv_at hl 2 rfl) ?_
    refine lv_iload_n hx hb dX9_does_172 rfl (lv_at hl 3 rfl) ?_
    refine lv_iload hx hb dX9_does_173 (lv_at hl 4 rfl) ?_
    refine fw_callV (As := [.int 8, .int (nI a), .int b, .int d]) (rest := []) X bs_all nw_all mf_X9_make (c_X9_make l D cs _ _ am M R 0 0 hM 8 a b d ha) wm_618 wm_620 wm_17 hF hS rfl hM.2.1 rfl rfl ((⟨⟨Nat.le_of_ble_eq_true rfl, Nat.le_of_ble_eq_true rfl⟩, Nat.le_of_ble_eq_true rfl, Nat.le_of_ble_eq_true rfl⟩)) rfl hl.1 rfl (Nat.le_of_ble_eq_true rfl) dX9_does_175 (fun v u16 H locs hp hF hS hz1 hk1 hd1 => ?_)
    rcases hp with ⟨k1, rfl, hM⟩ | ⟨k1, k2, rfl, hM⟩ | ⟨k1, k2, k3, rfl, hM⟩ | ⟨k1, k2, k3, rfl, hM⟩
    · have hM : MWd cs am (M, R, 2, 0) u16 := hM
      refine W.eq (g2 := F0 m 178 ls []) rfl ?_
      refine lv_goto (tgt := 394) hx hb dX9_does_178 (by decide) ?_
      have f9 : spDo q 8 (nI a) b d T = (if b < 0 then ((2, 0), T) else ((0, b), setRa T (ix (nI a)) (b, !decide (d &&& 1 = 0), fun _ => none))) := rfl
      rw [hia] at f9
      have z0 : b < 0 := k1.elim id (fun z => absurd z.1 (by decide))
      have e9 : spDo q 8 (nI a) b d T = ((2, 0), T) := by rw [f9, if_pos z0]
      exact tail M 2 0 sl _ _ _ ls hM (by rw [e9]; exact hR) (by rw [e9]) hF hS (lv_sub hl [0] rfl)
    · have hM : MWd cs am (va_up (va_up M 8 (upd (M 8) a b)) 9 (fill (M 9) (20 * a) 20 0), R, 0, b) u16 := hM
      refine W.eq (g2 := F0 m 178 ls []) rfl ?_
      refine lv_goto (tgt := 394) hx hb dX9_does_178 (by decide) ?_
      have f9 : spDo q 8 (nI a) b d T = (if b < 0 then ((2, 0), T) else ((0, b), setRa T (ix (nI a)) (b, !decide (d &&& 1 = 0), fun _ => none))) := rfl
      rw [hia] at f9
      exact absurd k2 (by decide)
    · have hM : MWd cs am (va_up (va_up (va_up M 10 (upd (M 10) a b)) 11 (upd (M 11) a (bz (decide (d &&& 1 = 1))))) 12 (fill (M 12) (20 * a) 20 (-1)), R, 0, b) u16 := hM
      refine W.eq (g2 := F0 m 178 ls []) rfl ?_
      refine lv_goto (tgt := 394) hx hb dX9_does_178 (by decide) ?_
      have f9 : spDo q 8 (nI a) b d T = (if b < 0 then ((2, 0), T) else ((0, b), setRa T (ix (nI a)) (b, !decide (d &&& 1 = 0), fun _ => none))) := rfl
      rw [hia] at f9
      have z0 : ¬ (b < 0) := fun z => k1 (Or.inl z)
      have e9 : spDo q 8 (nI a) b d T = ((0, b), setRa T a (b, !decide (d &&& 1 = 0), fun _ => none)) := by rw [f9, if_neg z0]
      exact tail (va_up (va_up (va_up M 10 (upd (M 10) a b)) 11 (upd (M 11) a (bz (decide (d &&& 1 = 1))))) 12 (fill (M 12) (20 * a) 20 (-1))) 0 b sl _ _ _ ls hM (by rw [e9]; exact hR.mk8 hI (lenI.of z0 (ok_8 hok))) (by rw [e9]) hF hS (lv_sub hl [0] rfl)
    · have hM : MWd cs am (va_up (va_up (va_up M 13 (upd (M 13) a b)) 14 (upd (M 14) a d)) 15 (fill (M 15) (400 * a) 400 0), R, 0, b) u16 := hM
      refine W.eq (g2 := F0 m 178 ls []) rfl ?_
      refine lv_goto (tgt := 394) hx hb dX9_does_178 (by decide) ?_
      have f9 : spDo q 8 (nI a) b d T = (if b < 0 then ((2, 0), T) else ((0, b), setRa T (ix (nI a)) (b, !decide (d &&& 1 = 0), fun _ => none))) := rfl
      rw [hia] at f9
      exact absurd rfl k3
  · refine lv_tableIn (off := 158) (tgt := 169) hx hb dX9_does_11 (by rw [sw3]; decide) (by rw [sw3]; decide) (by rw [sw3]; rfl) (by decide) ?_
    subst sw3
    have hl : lv_has ls 5 [(0, .ref (am 28)), (1, .int 9), (2, .int (nI a)), (3, .int b), (4, .int d)] := hl
    refine lv_aload_n hx hb dX9_does_169 rfl (lv_at hl 0 rfl) ?_
    refine lv_iload_n hx hb dX9_does_170 rfl (lv_at hl 1 rfl) ?_
    refine lv_iload_n hx hb dX9_does_171 rfl (lv_at hl 2 rfl) ?_
    refine lv_iload_n hx hb dX9_does_172 rfl (lv_at hl 3 rfl) ?_
    refine lv_iload hx hb dX9_does_173 (lv_at hl 4 rfl) ?_
    refine fw_callV (As := [.int 9, .int (nI a), .int b, .int d]) (rest := []) X bs_all nw_all mf_X9_make (c_X9_make l D cs _ _ am M R 0 0 hM 9 a b d ha) wm_618 wm_620 wm_17 hF hS rfl hM.2.1 rfl rfl ((⟨⟨Nat.le_of_ble_eq_true rfl, Nat.le_of_ble_eq_true rfl⟩, Nat.le_of_ble_eq_true rfl, Nat.le_of_ble_eq_true rfl⟩)) rfl hl.1 rfl (Nat.le_of_ble_eq_true rfl) dX9_does_175 (fun v u17 H locs hp hF hS hz1 hk1 hd1 => ?_)
    rcases hp with ⟨k1, rfl, hM⟩ | ⟨k1, k2, rfl, hM⟩ | ⟨k1, k2, k3, rfl, hM⟩ | ⟨k1, k2, k3, rfl, hM⟩
    · have hM : MWd cs am (M, R, 2, 0) u17 := hM
      refine W.eq (g2 := F0 m 178 ls []) rfl ?_
      refine lv_goto (tgt := 394) hx hb dX9_does_178 (by decide) ?_
      have f9 : spDo q 9 (nI a) b d T = (if b < 0 ∨ d < 0 then ((2, 0), T) else ((0, b), setGr T (ix (nI a)) (b, d, fun _ => 0))) := rfl
      rw [hia] at f9
      have z0 : b < 0 ∨ d < 0 := k1.elim Or.inl (fun z => Or.inr z.2)
      have e9 : spDo q 9 (nI a) b d T = ((2, 0), T) := by rw [f9, if_pos z0]
      exact tail M 2 0 sl _ _ _ ls hM (by rw [e9]; exact hR) (by rw [e9]) hF hS (lv_sub hl [0] rfl)
    · have hM : MWd cs am (va_up (va_up M 8 (upd (M 8) a b)) 9 (fill (M 9) (20 * a) 20 0), R, 0, b) u17 := hM
      refine W.eq (g2 := F0 m 178 ls []) rfl ?_
      refine lv_goto (tgt := 394) hx hb dX9_does_178 (by decide) ?_
      have f9 : spDo q 9 (nI a) b d T = (if b < 0 ∨ d < 0 then ((2, 0), T) else ((0, b), setGr T (ix (nI a)) (b, d, fun _ => 0))) := rfl
      rw [hia] at f9
      exact absurd k2 (by decide)
    · have hM : MWd cs am (va_up (va_up (va_up M 10 (upd (M 10) a b)) 11 (upd (M 11) a (bz (decide (d &&& 1 = 1))))) 12 (fill (M 12) (20 * a) 20 (-1)), R, 0, b) u17 := hM
      refine W.eq (g2 := F0 m 178 ls []) rfl ?_
      refine lv_goto (tgt := 394) hx hb dX9_does_178 (by decide) ?_
      have f9 : spDo q 9 (nI a) b d T = (if b < 0 ∨ d < 0 then ((2, 0), T) else ((0, b), setGr T (ix (nI a)) (b, d, fun _ => 0))) := rfl
      rw [hia] at f9
      exact absurd k3 (by decide)
    · have hM : MWd cs am (va_up (va_up (va_up M 13 (upd (M 13) a b)) 14 (upd (M 14) a d)) 15 (fill (M 15) (400 * a) 400 0), R, 0, b) u17 := hM
      refine W.eq (g2 := F0 m 178 ls []) rfl ?_
      refine lv_goto (tgt := 394) hx hb dX9_does_178 (by decide) ?_
      have f9 : spDo q 9 (nI a) b d T = (if b < 0 ∨ d < 0 then ((2, 0), T) else ((0, b), setGr T (ix (nI a)) (b, d, fun _ => 0))) := rfl
      rw [hia] at f9
      have z0 : ¬ (b < 0 ∨ d < 0) := fun z => k1 (z.elim Or.inl (fun z => Or.inr ⟨rfl, z⟩))
      have e9 : spDo q 9 (nI a) b d T = ((0, b), setGr T a (b, d, fun _ => 0)) := by rw [f9, if_neg z0]
      exact tail (va_up (va_up (va_up M 13 (upd (M 13) a b)) 14 (upd (M 14) a d)) 15 (fill (M 15) (400 * a) 400 0)) 0 b sl _ _ _ ls hM (by rw [e9]; exact hR.mk9 b d) (by rw [e9]) hF hS (lv_sub hl [0] rfl)
  · refine lv_tableIn (off := 170) (tgt := 181) hx hb dX9_does_11 (by rw [sw3]; decide) (by rw [sw3]; decide) (by rw [sw3]; rfl) (by decide) ?_
    subst sw3
    have hl : lv_has ls 5 [(0, .ref (am 28)), (1, .int 10), (2, .int (nI a)), (3, .int b), (4, .int d)] := hl
    have h8 : lenI (M 8 a) := by rw [(hR.2.2.2.1 a ha).1]; exact hI.2.1 a ha
    have h10 : lenI (M 10 a) := by rw [(hR.2.2.2.2.1 a ha).1]; exact (hI.2.2.1 a ha).1
    have h13 : lenI (M 13 a) := by rw [(hR.2.2.2.2.2.1 a ha).1]; exact (hI.2.2.2.1 a ha).1
    refine lv_aload_n hx hb dX9_does_181 rfl (lv_at hl 0 rfl) ?_
    refine lv_iload_n hx hb dX9_does_182 rfl (lv_at hl 2 rfl) ?_
    refine lv_iload_n hx hb dX9_does_183 rfl (lv_at hl 3 rfl) ?_
    refine lv_iload hx hb dX9_does_184 (lv_at hl 4 rfl) ?_
    refine fw_callV (As := [.int (nI a), .int b, .int d]) (rest := []) X bs_all nw_all mf_X9_measure (c_X9_measure l D cs _ _ am M R hM a b d ha h8 h10 h13) wm_622 wm_624 wm_18 hF hS rfl hM.2.1 rfl rfl ((⟨⟨Nat.le_of_ble_eq_true rfl, Nat.le_of_ble_eq_true rfl⟩, Nat.le_of_ble_eq_true rfl, Nat.le_of_ble_eq_true rfl⟩)) rfl hl.1 rfl (Nat.le_of_ble_eq_true rfl) dX9_does_186 (fun v u18 H locs hp hF hS hz1 hk1 hd1 => ?_)
    obtain ⟨hv1, hM⟩ := hp
    subst hv1
    have hM : MWd cs am (M, R, (mLong M a b d).1, (mLong M a b d).2) u18 := hM
    refine W.eq (g2 := F0 m 189 ls []) rfl ?_
    refine lv_goto (tgt := 394) hx hb dX9_does_189 (by decide) ?_
    have e9 : spDo q 10 (nI a) b d T = (((mLong M a b d).1, (mLong M a b d).2), T) := by rw [mLong_eq hR ha]; rfl
    exact tail M ((mLong M a b d).1) ((mLong M a b d).2) sl _ _ _ ls hM (by rw [e9]; exact hR) (by rw [e9]) hF hS (lv_sub hl [0] rfl)
  · refine lv_tableIn (off := 181) (tgt := 192) hx hb dX9_does_11 (by rw [sw3]; decide) (by rw [sw3]; decide) (by rw [sw3]; rfl) (by decide) ?_
    subst sw3
    have hl : lv_has ls 5 [(0, .ref (am 28)), (1, .int 11), (2, .int (nI a)), (3, .int b), (4, .int d)] := hl
    have h8 : lenI (M 8 a) := by rw [(hR.2.2.2.1 a ha).1]; exact hI.2.1 a ha
    have h10 : lenI (M 10 a) := by rw [(hR.2.2.2.2.1 a ha).1]; exact (hI.2.2.1 a ha).1
    have h13 : lenI (M 13 a) := by rw [(hR.2.2.2.2.2.1 a ha).1]; exact (hI.2.2.2.1 a ha).1
    refine lv_aload_n hx hb dX9_does_192 rfl (lv_at hl 0 rfl) ?_
    refine lv_aload_n hx hb dX9_does_193 rfl (lv_at hl 0 rfl) ?_
    refine fw_get (v := .ref (am 8)) X gC_ok hF hM.2.1 rfl 8 (by decide) wm_487 rfl dX9_does_194 ?_
    refine lv_iload_n hx hb dX9_does_197 rfl (lv_at hl 2 rfl) ?_
    refine fw_iald X hF (hM.2.2 8 (Or.inl (by decide))) 0 rfl (show vp_in (nI a) 4 from vp_in_nI (by omega) (by decide)) (v := (M 8) a) (by rw [nI_clamp (by omega)] <;> rfl) dX9_does_198 ?_
    refine lv_iload_n hx hb dX9_does_199 rfl (lv_at hl 3 rfl) ?_
    refine fw_callV (As := [.int ((M 8) a), .int b]) (rest := []) X bs_all nw_all mf_X9_has (c_X9_has l D cs _ _ am M R hM ((M 8) a) b h8) wm_627 wm_629 wm_19 hF hS rfl hM.2.1 rfl rfl ((⟨⟨Nat.le_of_ble_eq_true rfl, Nat.le_of_ble_eq_true rfl⟩, Nat.le_of_ble_eq_true rfl, Nat.le_of_ble_eq_true rfl⟩)) rfl hl.1 rfl (Nat.le_of_ble_eq_true rfl) dX9_does_200 (fun v u19 H locs hp hF hS hz1 hk1 hd1 => ?_)
    rcases hp with ⟨k1, rfl, hM⟩ | ⟨k1, k2, rfl, hM⟩ | ⟨k1, k2, rfl, hM⟩
    · have hM := hM
      have k1h1 := k1
      refine W.eq (g2 := F0 m 203 ls [.int 0]) rfl ?_
      refine lv_if_eq (tgt := 394) hx hb dX9_does_203 (by decide) (fun _ => ?_) (fun h => absurd h (by decide))
      have f9 : spDo q 11 (nI a) b d T = spPut (nI a) b d T := rfl
      unfold spPut at f9
      rw [hia, ← (hR.2.2.2.1 a ha).1] at f9
      have e9 : spDo q 11 (nI a) b d T = ((1, 0), T) := by rw [f9, if_pos k1h1]
      exact tail M 1 0 sl _ _ _ ls hM (by rw [e9]; exact hR) (by rw [e9]) hF hS (lv_sub hl [0] rfl)
    · have hM := hM
      have k1h2 := k1
      have k2h2 := k2
      refine W.eq (g2 := F0 m 203 ls [.int 0]) rfl ?_
      refine lv_if_eq (tgt := 394) hx hb dX9_does_203 (by decide) (fun _ => ?_) (fun h => absurd h (by decide))
      have f9 : spDo q 11 (nI a) b d T = spPut (nI a) b d T := rfl
      unfold spPut at f9
      rw [hia, ← (hR.2.2.2.1 a ha).1] at f9
      have e9 : spDo q 11 (nI a) b d T = ((3, 0), T) := by rw [f9, if_neg k1h2, if_neg (by rw [k2h2]; decide)]
      exact tail M 3 0 sl _ _ _ ls hM (by rw [e9]; exact hR) (by rw [e9]) hF hS (lv_sub hl [0] rfl)
    · have hM := hM
      have k1h3 := k1
      have k2h3 := k2
      obtain ⟨j3, hj3, ej3⟩ := vp_in_of (wi_in (wi_le k2h3 (h8).2) (N := 12) (by decide)) (by decide)
      subst ej3
      refine W.eq (g2 := F0 m 203 ls [.int 1]) rfl ?_
      refine lv_if_eq (tgt := 394) hx hb dX9_does_203 (by decide) (fun h => absurd h (by decide)) (fun _ => ?_)
      refine lv_aload_n hx hb dX9_does_206 rfl (lv_at hl 0 rfl) ?_
      refine lv_aload_n hx hb dX9_does_207 rfl (lv_at hl 0 rfl) ?_
      refine fw_get (v := .ref (am 9)) X gC_ok hF hM.2.1 rfl 9 (by decide) wm_488 rfl dX9_does_208 ?_
      refine lv_bipush (v := 20) hx hb dX9_does_211 (by decide) ?_
      refine lv_iload_n hx hb dX9_does_213 rfl (lv_at hl 2 rfl) ?_
      refine lv_imul hx hb dX9_does_214 ?_
      refine lv_iload_n hx hb dX9_does_215 rfl (lv_at hl 3 rfl) ?_
      refine lv_iadd hx hb dX9_does_216 ?_
      refine fw_iald X hF (hM.2.2 9 (Or.inl (by decide))) 0 rfl (show vp_in ((20 * (nI a)) + (nI j3)) 80 by rw [(show (20 * (nI a)) + (nI j3) = nI (20 * a + j3) by simp only [and_sb, and_sb1, nl1, nl2, nl3, nl4, nl5, nl16, nl20, nl400, pk_mul, nI_add])]; exact vp_in_nI (by omega) (by decide)) (v := (M 9) (20 * a + j3)) (by rw [(show (20 * (nI a)) + (nI j3) = nI (20 * a + j3) by simp only [and_sb, and_sb1, nl1, nl2, nl3, nl4, nl5, nl16, nl20, nl400, pk_mul, nI_add]), nI_clamp (by omega)] <;> rfl) dX9_does_217 ?_
      refine fw_put X gC_ok hF hS hM.2.1 rfl 27 (by decide) wm_506 rfl (tf := .int) (by decide +kernel) rfl rfl (Nat.le_of_ble_eq_true rfl) dX9_does_218 (fun H locs hF hS => ?_)
      obtain ⟨u23, hu23⟩ : ∃ y : fW, y = va_up u19 (am 28) (some (mObj am (M, R, 0, (M 9) (20 * a + j3)))) := ⟨_, rfl⟩
      have hM := hM.obj R 0 ((M 9) (20 * a + j3))
      have hF : fw_P D cls10 A u23 H := by rw [hu23]; exact hF
      have hM : MWd cs am (M, R, 0, (M 9) (20 * a + j3)) u23 := by rw [hu23]; exact hM
      refine lv_aload_n hx hb dX9_does_221 rfl (lv_at hl 0 rfl) ?_
      refine fw_get (v := .ref (am 9)) X gC_ok hF hM.2.1 rfl 9 (by decide) wm_488 rfl dX9_does_222 ?_
      refine lv_bipush (v := 20) hx hb dX9_does_225 (by decide) ?_
      refine lv_iload_n hx hb dX9_does_227 rfl (lv_at hl 2 rfl) ?_
      refine lv_imul hx hb dX9_does_228 ?_
      refine lv_iload_n hx hb dX9_does_229 rfl (lv_at hl 3 rfl) ?_
      refine lv_iadd hx hb dX9_does_230 ?_
      refine lv_iload hx hb dX9_does_231 (lv_at hl 4 rfl) ?_
      refine fw_iast X hF hS (hM.2.2 9 (Or.inl (by decide))) 0 rfl (show vp_in ((20 * (nI a)) + (nI j3)) 80 by rw [(show (20 * (nI a)) + (nI j3) = nI (20 * a + j3) by simp only [and_sb, and_sb1, nl1, nl2, nl3, nl4, nl5, nl16, nl20, nl400, pk_mul, nI_add])]; exact vp_in_nI (by omega) (by decide)) dX9_does_233 (fun H locs hF hS => ?_)
      rw [show ((20 * (nI a)) + (nI j3)).toNatClampNeg = 20 * a + j3 by rw [(show (20 * (nI a)) + (nI j3) = nI (20 * a + j3) by simp only [and_sb, and_sb1, nl1, nl2, nl3, nl4, nl5, nl16, nl20, nl400, pk_mul, nI_add])]; exact nI_clamp (by omega)] at hF
      obtain ⟨u24, hu24⟩ : ∃ y : fW, y = va_up u23 (am 9) (some (.inl (cs 0, 80, .inl (upd (M 9) (20 * a + j3) d)))) := ⟨_, rfl⟩
      have hM := hM.set 9 (Or.inl (by decide)) (upd (M 9) (20 * a + j3) d)
      have hF : fw_P D cls10 A u24 H := by rw [hu24]; exact hF
      have hM : MWd cs am (va_up M 9 (upd (M 9) (20 * a + j3) d), R, 0, (M 9) (20 * a + j3)) u24 := by rw [hu24]; exact hM
      refine lv_goto (tgt := 394) hx hb dX9_does_234 (by decide) ?_
      have f9 : spDo q 11 (nI a) (nI j3) d T = spPut (nI a) (nI j3) d T := rfl
      unfold spPut at f9
      rw [hia, ← (hR.2.2.2.1 a ha).1] at f9
      have hj_ : ix (nI j3) = j3 := nI_clamp (by omega)
      have e9 : spDo q 11 (nI a) (nI j3) d T = ((0, M 9 (20 * a + j3)), setBa T a ((tBa T a).1, upd (tBa T a).2 j3 d)) := by rw [f9, if_neg k1h3, if_pos k2h3, hj_, (hR.2.2.2.1 a ha).2 j3 (by omega), (hR.2.2.2.1 a ha).1]
      exact tail (va_up M 9 (upd (M 9) (20 * a + j3) d)) 0 ((M 9) (20 * a + j3)) sl _ _ _ ls hM (by rw [e9]; exact hR.put ha (by omega) d) (by rw [e9]) hF hS (lv_sub hl [0] rfl)
  · refine lv_tableIn (off := 226) (tgt := 237) hx hb dX9_does_11 (by rw [sw3]; decide) (by rw [sw3]; decide) (by rw [sw3]; rfl) (by decide) ?_
    subst sw3
    have hl : lv_has ls 5 [(0, .ref (am 28)), (1, .int 12), (2, .int (nI a)), (3, .int b), (4, .int d)] := hl
    have h8 : lenI (M 8 a) := by rw [(hR.2.2.2.1 a ha).1]; exact hI.2.1 a ha
    have h10 : lenI (M 10 a) := by rw [(hR.2.2.2.2.1 a ha).1]; exact (hI.2.2.1 a ha).1
    have h13 : lenI (M 13 a) := by rw [(hR.2.2.2.2.2.1 a ha).1]; exact (hI.2.2.2.1 a ha).1
    have h14 : lenI (M 14 a) := by rw [(hR.2.2.2.2.2.1 a ha).2.1]; exact lenI.of (i_nlt.mpr (hI.2.2.2.1 a ha).2.1) (hI.2.2.2.1 a ha).2.2
    have h14n : ¬ M 14 a = -1 := fun z => by rw [(hR.2.2.2.2.2.1 a ha).2.1] at z; have := (hI.2.2.2.1 a ha).2.1; rw [z] at this; revert this; decide
    refine lv_aload_n hx hb dX9_does_237 rfl (lv_at hl 0 rfl) ?_
    refine lv_aload_n hx hb dX9_does_238 rfl (lv_at hl 0 rfl) ?_
    refine fw_get (v := .ref (am 13)) X gC_ok hF hM.2.1 rfl 13 (by decide) wm_492 rfl dX9_does_239 ?_
    refine lv_iload_n hx hb dX9_does_242 rfl (lv_at hl 2 rfl) ?_
    refine fw_iald X hF (hM.2.2 13 (Or.inl (by decide))) 0 rfl (show vp_in (nI a) 4 from vp_in_nI (by omega) (by decide)) (v := (M 13) a) (by rw [nI_clamp (by omega)] <;> rfl) dX9_does_243 ?_
    refine lv_iload_n hx hb dX9_does_244 rfl (lv_at hl 3 rfl) ?_
    refine fw_callV (As := [.int ((M 13) a), .int b]) (rest := []) X bs_all nw_all mf_X9_has (c_X9_has l D cs _ _ am M R hM ((M 13) a) b h13) wm_627 wm_629 wm_19 hF hS rfl hM.2.1 rfl rfl ((⟨⟨Nat.le_of_ble_eq_true rfl, Nat.le_of_ble_eq_true rfl⟩, Nat.le_of_ble_eq_true rfl, Nat.le_of_ble_eq_true rfl⟩)) rfl hl.1 rfl (Nat.le_of_ble_eq_true rfl) dX9_does_245 (fun v u25 H locs hp hF hS hz1 hk1 hd1 => ?_)
    rcases hp with ⟨k1, rfl, hM⟩ | ⟨k1, k2, rfl, hM⟩ | ⟨k1, k2, rfl, hM⟩
    · have hM := hM
      have k1h4 := k1
      refine W.eq (g2 := F0 m 248 ls [.int 0]) rfl ?_
      refine lv_if_eq (tgt := 394) hx hb dX9_does_248 (by decide) (fun _ => ?_) (fun h => absurd h (by decide))
      have f9 : spDo q 12 (nI a) b d T = spAdd (nI a) b d T := rfl
      unfold spAdd at f9
      rw [hia, ← (hR.2.2.2.2.2.1 a ha).1, ← (hR.2.2.2.2.2.1 a ha).2.1] at f9
      have e9 : spDo q 12 (nI a) b d T = ((1, 0), T) := by rw [f9, if_pos k1h4]
      exact tail M 1 0 sl _ _ _ ls hM (by rw [e9]; exact hR) (by rw [e9]) hF hS (lv_sub hl [0] rfl)
    · have hM := hM
      have k1h5 := k1
      have k2h5 := k2
      refine W.eq (g2 := F0 m 248 ls [.int 0]) rfl ?_
      refine lv_if_eq (tgt := 394) hx hb dX9_does_248 (by decide) (fun _ => ?_) (fun h => absurd h (by decide))
      have f9 : spDo q 12 (nI a) b d T = spAdd (nI a) b d T := rfl
      unfold spAdd at f9
      rw [hia, ← (hR.2.2.2.2.2.1 a ha).1, ← (hR.2.2.2.2.2.1 a ha).2.1] at f9
      have e9 : spDo q 12 (nI a) b d T = ((3, 0), T) := by rw [f9, if_neg k1h5, if_neg (by simp [k2h5])]
      exact tail M 3 0 sl _ _ _ ls hM (by rw [e9]; exact hR) (by rw [e9]) hF hS (lv_sub hl [0] rfl)
    · have hM := hM
      have k1h6 := k1
      have k2h6 := k2
      obtain ⟨j6, hj6, ej6⟩ := vp_in_of (wi_in (wi_le k2h6 (h13).2) (N := 12) (by decide)) (by decide)
      subst ej6
      refine W.eq (g2 := F0 m 248 ls [.int 1]) rfl ?_
      refine lv_if_eq (tgt := 394) hx hb dX9_does_248 (by decide) (fun h => absurd h (by decide)) (fun _ => ?_)
      refine lv_aload_n hx hb dX9_does_251 rfl (lv_at hl 0 rfl) ?_
      refine lv_aload_n hx hb dX9_does_252 rfl (lv_at hl 0 rfl) ?_
      refine fw_get (v := .ref (am 14)) X gC_ok hF hM.2.1 rfl 14 (by decide) wm_493 rfl dX9_does_253 ?_
      refine lv_iload_n hx hb dX9_does_256 rfl (lv_at hl 2 rfl) ?_
      refine fw_iald X hF (hM.2.2 14 (Or.inl (by decide))) 0 rfl (show vp_in (nI a) 4 from vp_in_nI (by omega) (by decide)) (v := (M 14) a) (by rw [nI_clamp (by omega)] <;> rfl) dX9_does_257 ?_
      refine lv_iload hx hb dX9_does_258 (lv_at hl 4 rfl) ?_
      refine fw_callV (As := [.int ((M 14) a), .int d]) (rest := []) X bs_all nw_all mf_X9_has (c_X9_has l D cs _ _ am M R hM ((M 14) a) d h14) wm_627 wm_629 wm_19 hF hS rfl hM.2.1 rfl rfl ((⟨⟨Nat.le_of_ble_eq_true rfl, Nat.le_of_ble_eq_true rfl⟩, Nat.le_of_ble_eq_true rfl, Nat.le_of_ble_eq_true rfl⟩)) rfl hl.1 rfl (Nat.le_of_ble_eq_true rfl) dX9_does_260 (fun v u29 H locs hp hF hS hz1 hk1 hd1 => ?_)
      rcases hp with ⟨k1, rfl, hM⟩ | ⟨k1, k2, rfl, hM⟩ | ⟨k1, k2, rfl, hM⟩
      · have hM := hM
        have k1h7 := k1
        refine W.eq (g2 := F0 m 263 ls [.int 0]) rfl ?_
        refine lv_if_eq (tgt := 394) hx hb dX9_does_263 (by decide) (fun _ => ?_) (fun h => absurd h (by decide))
        have f9 : spDo q 12 (nI a) (nI j6) d T = spAdd (nI a) (nI j6) d T := rfl
        unfold spAdd at f9
        rw [hia, ← (hR.2.2.2.2.2.1 a ha).1, ← (hR.2.2.2.2.2.1 a ha).2.1] at f9
        exact absurd k1h7 h14n
      · have hM := hM
        have k1h8 := k1
        have k2h8 := k2
        refine W.eq (g2 := F0 m 263 ls [.int 0]) rfl ?_
        refine lv_if_eq (tgt := 394) hx hb dX9_does_263 (by decide) (fun _ => ?_) (fun h => absurd h (by decide))
        have f9 : spDo q 12 (nI a) (nI j6) d T = spAdd (nI a) (nI j6) d T := rfl
        unfold spAdd at f9
        rw [hia, ← (hR.2.2.2.2.2.1 a ha).1, ← (hR.2.2.2.2.2.1 a ha).2.1] at f9
        have e9 : spDo q 12 (nI a) (nI j6) d T = ((3, 0), T) := by rw [f9, if_neg k1h6, if_neg (by rw [k2h6, k2h8]; decide)]
        exact tail M 3 0 sl _ _ _ ls hM (by rw [e9]; exact hR) (by rw [e9]) hF hS (lv_sub hl [0] rfl)
      · have hM := hM
        have k1h9 := k1
        have k2h9 := k2
        obtain ⟨j9, hj9, ej9⟩ := vp_in_of (wi_in (wi_le k2h9 (h14).2) (N := 12) (by decide)) (by decide)
        subst ej9
        refine W.eq (g2 := F0 m 263 ls [.int 1]) rfl ?_
        refine lv_if_eq (tgt := 394) hx hb dX9_does_263 (by decide) (fun h => absurd h (by decide)) (fun _ => ?_)
        refine lv_aload_n hx hb dX9_does_266 rfl (lv_at hl 0 rfl) ?_
        refine fw_get (v := .ref (am 15)) X gC_ok hF hM.2.1 rfl 15 (by decide) wm_494 rfl dX9_does_267 ?_
        refine lv_sipush (v := 400) hx hb dX9_does_270 (by decide) ?_
        refine lv_iload_n hx hb dX9_does_273 rfl (lv_at hl 2 rfl) ?_
        refine lv_imul hx hb dX9_does_274 ?_
        refine lv_bipush (v := 20) hx hb dX9_does_275 (by decide) ?_
        refine lv_iload_n hx hb dX9_does_277 rfl (lv_at hl 3 rfl) ?_
        refine lv_imul hx hb dX9_does_278 ?_
        refine lv_iadd hx hb dX9_does_279 ?_
        refine lv_iload hx hb dX9_does_280 (lv_at hl 4 rfl) ?_
        refine lv_iadd hx hb dX9_does_282 ?_
        refine lv_dup2_11 hx hb dX9_does_283 rfl rfl ?_
        refine fw_iald X hF (hM.2.2 15 (Or.inl (by decide))) 0 rfl (show vp_in (((400 * (nI a)) + (20 * (nI j6))) + (nI j9)) 1600 by rw [(show ((400 * (nI a)) + (20 * (nI j6))) + (nI j9) = nI (400 * a + 20 * j6 + j9) by simp only [and_sb, and_sb1, nl1, nl2, nl3, nl4, nl5, nl16, nl20, nl400, pk_mul, nI_add])]; exact vp_in_nI (by omega) (by decide)) (v := (M 15) (400 * a + 20 * j6 + j9)) (by rw [(show ((400 * (nI a)) + (20 * (nI j6))) + (nI j9) = nI (400 * a + 20 * j6 + j9) by simp only [and_sb, and_sb1, nl1, nl2, nl3, nl4, nl5, nl16, nl20, nl400, pk_mul, nI_add]), nI_clamp (by omega)] <;> rfl) dX9_does_284 ?_
        refine lv_iconst (v := 1) hx hb dX9_does_285 (by decide) ?_
        refine lv_iadd hx hb dX9_does_286 ?_
        refine fw_iast X hF hS (hM.2.2 15 (Or.inl (by decide))) 0 rfl (show vp_in (((400 * (nI a)) + (20 * (nI j6))) + (nI j9)) 1600 by rw [(show ((400 * (nI a)) + (20 * (nI j6))) + (nI j9) = nI (400 * a + 20 * j6 + j9) by simp only [and_sb, and_sb1, nl1, nl2, nl3, nl4, nl5, nl16, nl20, nl400, pk_mul, nI_add])]; exact vp_in_nI (by omega) (by decide)) dX9_does_287 (fun H locs hF hS => ?_)
        rw [show (((400 * (nI a)) + (20 * (nI j6))) + (nI j9)).toNatClampNeg = 400 * a + 20 * j6 + j9 by rw [(show ((400 * (nI a)) + (20 * (nI j6))) + (nI j9) = nI (400 * a + 20 * j6 + j9) by simp only [and_sb, and_sb1, nl1, nl2, nl3, nl4, nl5, nl16, nl20, nl400, pk_mul, nI_add])]; exact nI_clamp (by omega)] at hF
        obtain ⟨u33, hu33⟩ : ∃ y : fW, y = va_up u29 (am 15) (some (.inl (cs 0, 1600, .inl (upd (M 15) (400 * a + 20 * j6 + j9) (((M 15) (400 * a + 20 * j6 + j9)) + 1))))) := ⟨_, rfl⟩
        have hM := hM.set 15 (Or.inl (by decide)) (upd (M 15) (400 * a + 20 * j6 + j9) (((M 15) (400 * a + 20 * j6 + j9)) + 1))
        have hF : fw_P D cls10 A u33 H := by rw [hu33]; exact hF
        have hM : MWd cs am (va_up M 15 (upd (M 15) (400 * a + 20 * j6 + j9) (((M 15) (400 * a + 20 * j6 + j9)) + 1)), R, 0, 0) u33 := by rw [hu33]; exact hM
        refine lv_aload_n hx hb dX9_does_288 rfl (lv_at hl 0 rfl) ?_
        refine lv_aload_n hx hb dX9_does_289 rfl (lv_at hl 0 rfl) ?_
        refine fw_get (v := .ref (am 15)) X gC_ok hF hM.2.1 rfl 15 (by decide) wm_494 rfl dX9_does_290 ?_
        refine lv_sipush (v := 400) hx hb dX9_does_293 (by decide) ?_
        refine lv_iload_n hx hb dX9_does_296 rfl (lv_at hl 2 rfl) ?_
        refine lv_imul hx hb dX9_does_297 ?_
        refine lv_bipush (v := 20) hx hb dX9_does_298 (by decide) ?_
        refine lv_iload_n hx hb dX9_does_300 rfl (lv_at hl 3 rfl) ?_
        refine lv_imul hx hb dX9_does_301 ?_
        refine lv_iadd hx hb dX9_does_302 ?_
        refine lv_iload hx hb dX9_does_303 (lv_at hl 4 rfl) ?_
        refine lv_iadd hx hb dX9_does_305 ?_
        refine fw_iald X hF (hM.2.2 15 (Or.inl (by decide))) 0 rfl (show vp_in (((400 * (nI a)) + (20 * (nI j6))) + (nI j9)) 1600 by rw [(show ((400 * (nI a)) + (20 * (nI j6))) + (nI j9) = nI (400 * a + 20 * j6 + j9) by simp only [and_sb, and_sb1, nl1, nl2, nl3, nl4, nl5, nl16, nl20, nl400, pk_mul, nI_add])]; exact vp_in_nI (by omega) (by decide)) (v := (upd (M 15) (400 * a + 20 * j6 + j9) (((M 15) (400 * a + 20 * j6 + j9)) + 1)) (400 * a + 20 * j6 + j9)) (by rw [(show ((400 * (nI a)) + (20 * (nI j6))) + (nI j9) = nI (400 * a + 20 * j6 + j9) by simp only [and_sb, and_sb1, nl1, nl2, nl3, nl4, nl5, nl16, nl20, nl400, pk_mul, nI_add]), nI_clamp (by omega)] <;> rfl) dX9_does_306 ?_
        refine fw_put X gC_ok hF hS hM.2.1 rfl 27 (by decide) wm_506 rfl (tf := .int) (by decide +kernel) rfl rfl (Nat.le_of_ble_eq_true rfl) dX9_does_307 (fun H locs hF hS => ?_)
        obtain ⟨u34, hu34⟩ : ∃ y : fW, y = va_up u33 (am 28) (some (mObj am (va_up M 15 (upd (M 15) (400 * a + 20 * j6 + j9) (((M 15) (400 * a + 20 * j6 + j9)) + 1)), R, 0, (upd (M 15) (400 * a + 20 * j6 + j9) (((M 15) (400 * a + 20 * j6 + j9)) + 1)) (400 * a + 20 * j6 + j9)))) := ⟨_, rfl⟩
        have hM := hM.obj R 0 ((upd (M 15) (400 * a + 20 * j6 + j9) (((M 15) (400 * a + 20 * j6 + j9)) + 1)) (400 * a + 20 * j6 + j9))
        have hF : fw_P D cls10 A u34 H := by rw [hu34]; exact hF
        have hM : MWd cs am (va_up M 15 (upd (M 15) (400 * a + 20 * j6 + j9) (((M 15) (400 * a + 20 * j6 + j9)) + 1)), R, 0, (upd (M 15) (400 * a + 20 * j6 + j9) (((M 15) (400 * a + 20 * j6 + j9)) + 1)) (400 * a + 20 * j6 + j9)) u34 := by rw [hu34]; exact hM
        refine lv_goto (tgt := 394) hx hb dX9_does_310 (by decide) ?_
        have f9 : spDo q 12 (nI a) (nI j6) (nI j9) T = spAdd (nI a) (nI j6) (nI j9) T := rfl
        unfold spAdd at f9
        rw [hia, ← (hR.2.2.2.2.2.1 a ha).1, ← (hR.2.2.2.2.2.1 a ha).2.1] at f9
        have hj_ : ix (nI j6) = j6 := nI_clamp (by omega)
        have hj2_ : ix (nI j9) = j9 := nI_clamp (by omega)
        rw [upd_s] at hM
        have e9 : spDo q 12 (nI a) (nI j6) (nI j9) T = ((0, M 15 (400 * a + 20 * j6 + j9) + 1), setGr T a ((tGr T a).1, (tGr T a).2.1, upd (tGr T a).2.2 (12 * j6 + j9) (M 15 (400 * a + 20 * j6 + j9) + 1))) := by rw [f9, if_neg k1h6, if_pos (by rw [k2h6, k2h9]; rfl), hj_, hj2_, (hR.2.2.2.2.2.1 a ha).2.2 j6 j9 (by omega) (by omega), (hR.2.2.2.2.2.1 a ha).1, (hR.2.2.2.2.2.1 a ha).2.1]
        exact tail (va_up M 15 (upd (M 15) (400 * a + 20 * j6 + j9) (((M 15) (400 * a + 20 * j6 + j9)) + 1))) 0 (M 15 (400 * a + 20 * j6 + j9) + 1) sl _ _ _ ls hM (by rw [e9]; exact hR.add ha (by omega) (by omega) _) (by rw [e9]) hF hS (lv_sub hl [0] rfl)
  · refine lv_tableIn (off := 302) (tgt := 313) hx hb dX9_does_11 (by rw [sw3]; decide) (by rw [sw3]; decide) (by rw [sw3]; rfl) (by decide) ?_
    subst sw3
    have hl : lv_has ls 5 [(0, .ref (am 28)), (1, .int 13), (2, .int (nI a)), (3, .int b), (4, .int d)] := hl
    have h8 : lenI (M 8 a) := by rw [(hR.2.2.2.1 a ha).1]; exact hI.2.1 a ha
    have h10 : lenI (M 10 a) := by rw [(hR.2.2.2.2.1 a ha).1]; exact (hI.2.2.1 a ha).1
    have h13 : lenI (M 13 a) := by rw [(hR.2.2.2.2.2.1 a ha).1]; exact (hI.2.2.2.1 a ha).1
    obtain ⟨e, he, ed⟩ := vp_in_of (wi_in (ok_13 hok) (N := 4) (by decide)) (by decide)
    subst ed
    have hl : lv_has ls 5 [(0, .ref (am 28)), (1, .int 13), (2, .int (nI a)), (3, .int b), (4, .int (nI e))] := hl
    refine lv_aload_n hx hb dX9_does_313 rfl (lv_at hl 0 rfl) ?_
    refine lv_iload_n hx hb dX9_does_314 rfl (lv_at hl 2 rfl) ?_
    refine lv_iload_n hx hb dX9_does_315 rfl (lv_at hl 3 rfl) ?_
    refine lv_iload hx hb dX9_does_316 (lv_at hl 4 rfl) ?_
    refine fw_callV (As := [.int (nI a), .int b, .int (nI e)]) (rest := []) X bs_all nw_all mf_X9_hang (c_X9_hang l D cs _ _ am M R hM a b e ha he h10 (fun z => hR.slot (frl he) (hR.1 e he).2.2.1 z)) wm_631 wm_633 wm_20 hF hS rfl hM.2.1 rfl rfl ((⟨⟨Nat.le_of_ble_eq_true rfl, Nat.le_of_ble_eq_true rfl⟩, Nat.le_of_ble_eq_true rfl, Nat.le_of_ble_eq_true rfl⟩)) rfl hl.1 rfl (Nat.le_of_ble_eq_true rfl) dX9_does_318 (fun v u35 H locs hp hF hS hz1 hk1 hd1 => ?_)
    rcases hp with ⟨k1, rfl, hM⟩ | ⟨k1, k2, rfl, hM⟩ | ⟨k1, k2, k3, rfl, hM⟩ | ⟨k1, k2, k3, rfl, hM⟩
    · have hM : MWd cs am (M, R, 1, 0) u35 := hM
      refine W.eq (g2 := F0 m 321 ls []) rfl ?_
      refine lv_goto (tgt := 394) hx hb dX9_does_321 (by decide) ?_
      have f9 : spDo q 13 (nI a) b (nI e) T = spHang (nI a) b (nI e) T := rfl
      have hie : ix (nI e) = e := nI_clamp (by omega)
      unfold spHang at f9
      rw [hia, hie, ← (hR.2.2.2.2.1 a ha).1] at f9
      have hor : (M 10 a = -1 ∨ (tSt T e).1 = false) ↔ (M 10 a = -1 ∨ M 0 e = 0) := by rw [bk0 hR he]
      have e9 : spDo q 13 (nI a) b (nI e) T = ((1, 0), T) := by rw [f9, if_pos (hor.mpr k1)]
      exact tail M 1 0 sl _ _ _ ls hM (by rw [e9]; exact hR) (by rw [e9]) hF hS (lv_sub hl [0] rfl)
    · have hM : MWd cs am (M, R, 3, 0) u35 := hM
      refine W.eq (g2 := F0 m 321 ls []) rfl ?_
      refine lv_goto (tgt := 394) hx hb dX9_does_321 (by decide) ?_
      have f9 : spDo q 13 (nI a) b (nI e) T = spHang (nI a) b (nI e) T := rfl
      have hie : ix (nI e) = e := nI_clamp (by omega)
      unfold spHang at f9
      rw [hia, hie, ← (hR.2.2.2.2.1 a ha).1] at f9
      have hor : (M 10 a = -1 ∨ (tSt T e).1 = false) ↔ (M 10 a = -1 ∨ M 0 e = 0) := by rw [bk0 hR he]
      have e9 : spDo q 13 (nI a) b (nI e) T = ((3, 0), T) := by rw [f9, if_neg (fun z => k1 (hor.mp z)), if_neg (by rw [k2]; decide)]
      exact tail M 3 0 sl _ _ _ ls hM (by rw [e9]; exact hR) (by rw [e9]) hF hS (lv_sub hl [0] rfl)
    · have hM : MWd cs am (M, R, 4, 0) u35 := hM
      refine W.eq (g2 := F0 m 321 ls []) rfl ?_
      refine lv_goto (tgt := 394) hx hb dX9_does_321 (by decide) ?_
      have f9 : spDo q 13 (nI a) b (nI e) T = spHang (nI a) b (nI e) T := rfl
      have hie : ix (nI e) = e := nI_clamp (by omega)
      unfold spHang at f9
      rw [hia, hie, ← (hR.2.2.2.2.1 a ha).1] at f9
      have hor : (M 10 a = -1 ∨ (tSt T e).1 = false) ↔ (M 10 a = -1 ∨ M 0 e = 0) := by rw [bk0 hR he]
      have e9 : spDo q 13 (nI a) b (nI e) T = ((4, 0), T) := by rw [f9, if_neg (fun z => k1 (hor.mp z)), if_pos k2, if_pos ((noS_eq hR ha he).mp k3)]
      exact tail M 4 0 sl _ _ _ ls hM (by rw [e9]; exact hR) (by rw [e9]) hF hS (lv_sub hl [0] rfl)
    · have hM : MWd cs am (va_up M 12 (upd (M 12) (20 * a + ix b) (M 2 (2 * e))), R, 0, 1) u35 := hM
      refine W.eq (g2 := F0 m 321 ls []) rfl ?_
      refine lv_goto (tgt := 394) hx hb dX9_does_321 (by decide) ?_
      have f9 : spDo q 13 (nI a) b (nI e) T = spHang (nI a) b (nI e) T := rfl
      have hie : ix (nI e) = e := nI_clamp (by omega)
      unfold spHang at f9
      rw [hia, hie, ← (hR.2.2.2.2.1 a ha).1] at f9
      have hor : (M 10 a = -1 ∨ (tSt T e).1 = false) ↔ (M 10 a = -1 ∨ M 0 e = 0) := by rw [bk0 hR he]
      have e9 : spDo q 13 (nI a) b (nI e) T = ((0, 1), setRa T a ((tRa T a).1, (tRa T a).2.1, va_up (tRa T a).2.2 (ix b) (tSt T e).2.2.1)) := by rw [f9, if_neg (fun z => k1 (hor.mp z)), if_pos k2, if_neg (fun z => k3 ((noS_eq hR ha he).mpr z)), (hR.2.2.2.2.1 a ha).1]
      exact tail (va_up M 12 (upd (M 12) (20 * a + ix b) (M 2 (2 * e)))) 0 1 sl _ _ _ ls hM (by rw [e9]; exact hR.hang hI ha he (wi_lt (wi_le k2 h10.2) (N := 12) (by decide))) (by rw [e9]) hF hS (lv_sub hl [0] rfl)
  · refine lv_tableIn (off := 313) (tgt := 324) hx hb dX9_does_11 (by rw [sw3]; decide) (by rw [sw3]; decide) (by rw [sw3]; rfl) (by decide) ?_
    subst sw3
    have hl : lv_has ls 5 [(0, .ref (am 28)), (1, .int 14), (2, .int (nI a)), (3, .int b), (4, .int d)] := hl
    have h8 : lenI (M 8 a) := by rw [(hR.2.2.2.1 a ha).1]; exact hI.2.1 a ha
    have h10 : lenI (M 10 a) := by rw [(hR.2.2.2.2.1 a ha).1]; exact (hI.2.2.1 a ha).1
    have h13 : lenI (M 13 a) := by rw [(hR.2.2.2.2.2.1 a ha).1]; exact (hI.2.2.2.1 a ha).1
    have hslb : wi b (M 10 a) = true → ¬ M 12 (20 * a + ix b) = -1 → ∃ s9, s9 < 100 ∧ M 12 (20 * a + ix b) = nI s9 := fun z0 z1 => by
      have hjb : ix b < ix (tRa T a).1 := by rw [← (hR.2.2.2.2.1 a ha).1]; exact ix_lt z0
      exact hR.slot (fun r z => Or.inr ⟨a, ix b, ha, hjb, z⟩) ((hR.2.2.2.2.1 a ha).2.2 (ix b) hjb) z1
    refine lv_aload_n hx hb dX9_does_324 rfl (lv_at hl 0 rfl) ?_
    refine lv_iload_n hx hb dX9_does_325 rfl (lv_at hl 2 rfl) ?_
    refine lv_iload_n hx hb dX9_does_326 rfl (lv_at hl 3 rfl) ?_
    refine fw_callV (As := [.int (nI a), .int b]) (rest := []) X bs_all nw_all mf_X9_balance (c_X9_balance l D cs _ _ am M R hM a b ha h10 hslb) wm_635 wm_637 wm_21 hF hS rfl hM.2.1 rfl rfl ((⟨⟨Nat.le_of_ble_eq_true rfl, Nat.le_of_ble_eq_true rfl⟩, Nat.le_of_ble_eq_true rfl, Nat.le_of_ble_eq_true rfl⟩)) rfl hl.1 rfl (Nat.le_of_ble_eq_true rfl) dX9_does_327 (fun v u36 H locs hp hF hS hz1 hk1 hd1 => ?_)
    rcases hp with ⟨k1, rfl, hM⟩ | ⟨k1, k2, rfl, hM⟩ | ⟨k1, k2, k3, rfl, hM⟩ | ⟨k1, k2, s9, k3, k4, k5, rfl, hM⟩ | ⟨k1, k2, s9, k3, k4, k5, rfl, hM⟩
    · have hM : MWd cs am (M, R, 1, 0) u36 := hM
      refine W.eq (g2 := F0 m 330 ls []) rfl ?_
      refine lv_goto (tgt := 394) hx hb dX9_does_330 (by decide) ?_
      have f9 : spDo q 14 (nI a) b d T = spBal (nI a) b T := rfl
      unfold spBal at f9
      rw [hia, ← (hR.2.2.2.2.1 a ha).1] at f9
      have e9 : spDo q 14 (nI a) b d T = ((1, 0), T) := by rw [f9, if_pos k1]
      exact tail M 1 0 sl _ _ _ ls hM (by rw [e9]; exact hR) (by rw [e9]) hF hS (lv_sub hl [0] rfl)
    · have hM : MWd cs am (M, R, 3, 0) u36 := hM
      refine W.eq (g2 := F0 m 330 ls []) rfl ?_
      refine lv_goto (tgt := 394) hx hb dX9_does_330 (by decide) ?_
      have f9 : spDo q 14 (nI a) b d T = spBal (nI a) b T := rfl
      unfold spBal at f9
      rw [hia, ← (hR.2.2.2.2.1 a ha).1] at f9
      have e9 : spDo q 14 (nI a) b d T = ((3, 0), T) := by rw [f9, if_neg k1, if_neg (by rw [k2]; decide)]
      exact tail M 3 0 sl _ _ _ ls hM (by rw [e9]; exact hR) (by rw [e9]) hF hS (lv_sub hl [0] rfl)
    · have hM : MWd cs am (M, R, 1, 0) u36 := hM
      refine W.eq (g2 := F0 m 330 ls []) rfl ?_
      refine lv_goto (tgt := 394) hx hb dX9_does_330 (by decide) ?_
      have f9 : spDo q 14 (nI a) b d T = spBal (nI a) b T := rfl
      unfold spBal at f9
      rw [hia, ← (hR.2.2.2.2.1 a ha).1] at f9
      have hjb : ix b < ix (tRa T a).1 := by rw [← (hR.2.2.2.2.1 a ha).1]; exact ix_lt k2
      have hml := (hR.2.2.2.2.1 a ha).2.2 (ix b) hjb
      have z0 : (tRa T a).2.2 (ix b) = none := (slI_1 hR (fun r z => Or.inr ⟨a, ix b, ha, hjb, z⟩)).mp (hml.symm.trans k3)
      have e9 : spDo q 14 (nI a) b d T = ((1, 0), T) := by rw [f9, if_neg k1, if_pos k2, z0]
      exact tail M 1 0 sl _ _ _ ls hM (by rw [e9]; exact hR) (by rw [e9]) hF hS (lv_sub hl [0] rfl)
    · have hM : MWd cs am (M, R, 5, 0) u36 := hM
      refine W.eq (g2 := F0 m 330 ls []) rfl ?_
      refine lv_goto (tgt := 394) hx hb dX9_does_330 (by decide) ?_
      have f9 : spDo q 14 (nI a) b d T = spBal (nI a) b T := rfl
      unfold spBal at f9
      rw [hia, ← (hR.2.2.2.2.1 a ha).1] at f9
      have hjb : ix b < ix (tRa T a).1 := by rw [← (hR.2.2.2.2.1 a ha).1]; exact ix_lt k2
      have hml := (hR.2.2.2.2.1 a ha).2.2 (ix b) hjb
      obtain ⟨r9, e1, hl9, e3⟩ := hR.slotq (fun r z => Or.inr ⟨a, ix b, ha, hjb, z⟩) hml k3 k4
      subst e3
      obtain ⟨p0, p1, p2⟩ := (hR.2.1 r9 hl9).2
      rw [p2] at k5
      have e9 : spDo q 14 (nI a) b d T = ((5, 0), T) := by rw [f9, if_neg k1, if_pos k2, e1]; exact if_neg (by rw [bz_0.mp k5]; decide)
      exact tail M 5 0 sl _ _ _ ls hM (by rw [e9]; exact hR) (by rw [e9]) hF hS (lv_sub hl [0] rfl)
    · have hM : MWd cs am (va_up M 6 (upd (M 6) s9 0), R, 0, 1000 + M 5 s9) u36 := hM
      refine W.eq (g2 := F0 m 330 ls []) rfl ?_
      refine lv_goto (tgt := 394) hx hb dX9_does_330 (by decide) ?_
      have f9 : spDo q 14 (nI a) b d T = spBal (nI a) b T := rfl
      unfold spBal at f9
      rw [hia, ← (hR.2.2.2.2.1 a ha).1] at f9
      have hjb : ix b < ix (tRa T a).1 := by rw [← (hR.2.2.2.2.1 a ha).1]; exact ix_lt k2
      have hml := (hR.2.2.2.2.1 a ha).2.2 (ix b) hjb
      obtain ⟨r9, e1, hl9, e3⟩ := hR.slotq (fun r z => Or.inr ⟨a, ix b, ha, hjb, z⟩) hml k3 k4
      subst e3
      obtain ⟨p0, p1, p2⟩ := (hR.2.1 r9 hl9).2
      rw [p2] at k5
      rw [p0] at hM
      have e9 : spDo q 14 (nI a) b d T = ((0, 1000 + (W9 T r9).1), setWh T r9 ((W9 T r9).1, (W9 T r9).2.1, 0)) := by rw [f9, if_neg k1, if_pos k2, e1]; exact if_pos (gx_bz1 k5)
      exact tail (va_up M 6 (upd (M 6) (sl r9) 0)) 0 (1000 + (W9 T r9).1) sl _ _ _ ls hM (by rw [e9]; exact hR.wh hl9 0) (by rw [e9]) hF hS (lv_sub hl [0] rfl)
  · refine lv_tableIn (off := 322) (tgt := 333) hx hb dX9_does_11 (by rw [sw3]; decide) (by rw [sw3]; decide) (by rw [sw3]; rfl) (by decide) ?_
    subst sw3
    have hl : lv_has ls 5 [(0, .ref (am 28)), (1, .int 15), (2, .int (nI a)), (3, .int b), (4, .int d)] := hl
    refine lv_aload_n hx hb dX9_does_333 rfl (lv_at hl 0 rfl) ?_
    refine fw_get (v := .ref (am 16)) X gC_ok hF hM.2.1 rfl 16 (by decide) wm_495 rfl dX9_does_334 ?_
    refine lv_iload_n hx hb dX9_does_337 rfl (lv_at hl 2 rfl) ?_
    refine lv_iload_n hx hb dX9_does_338 rfl (lv_at hl 3 rfl) ?_
    refine lv_if_ne (tgt := 346) hx hb dX9_does_339 (by decide) (fun c339_37 => ?_) (fun c339_37 => ?_)
    · refine lv_iload_n hx hb dX9_does_346 rfl (lv_at hl 3 rfl) ?_
      refine lv_iconst (v := 1) hx hb dX9_does_347 (by decide) ?_
      refine lv_icmp_ne (tgt := 355) hx hb dX9_does_348 (by decide) (fun c348_38 => ?_) (fun c348_38 => ?_)
      · refine lv_iconst (v := 2) hx hb dX9_does_355 (by decide) ?_
        refine fw_iast X hF hS (hM.2.2 16 (Or.inl (by decide))) 0 rfl (show vp_in (nI a) 4 from vp_in_nI (by omega) (by decide)) dX9_does_356 (fun H locs hF hS => ?_)
        rw [show (nI a).toNatClampNeg = a from nI_clamp (by omega)] at hF
        obtain ⟨u39, hu39⟩ : ∃ y : fW, y = va_up u2 (am 16) (some (.inl (cs 0, 4, .inl (upd (M 16) a 2)))) := ⟨_, rfl⟩
        have hM := hM.set 16 (Or.inl (by decide)) (upd (M 16) a 2)
        have hF : fw_P D cls10 A u39 H := by rw [hu39]; exact hF
        have hM : MWd cs am (va_up M 16 (upd (M 16) a 2), R, 0, 0) u39 := by rw [hu39]; exact hM
        refine lv_aload_n hx hb dX9_does_357 rfl (lv_at hl 0 rfl) ?_
        refine lv_iload_n hx hb dX9_does_358 rfl (lv_at hl 3 rfl) ?_
        refine fw_put X gC_ok hF hS hM.2.1 rfl 27 (by decide) wm_506 rfl (tf := .int) (by decide +kernel) rfl rfl (Nat.le_of_ble_eq_true rfl) dX9_does_359 (fun H locs hF hS => ?_)
        obtain ⟨u40, hu40⟩ : ∃ y : fW, y = va_up u39 (am 28) (some (mObj am (va_up M 16 (upd (M 16) a 2), R, 0, b))) := ⟨_, rfl⟩
        have hM := hM.obj R 0 b
        have hF : fw_P D cls10 A u40 H := by rw [hu40]; exact hF
        have hM : MWd cs am (va_up M 16 (upd (M 16) a 2), R, 0, b) u40 := by rw [hu40]; exact hM
        refine lv_goto (tgt := 394) hx hb dX9_does_362 (by decide) ?_
        have x9 : excI b = 7 := by simp [excI, c339_37, c348_38]
        have e9 : spDo q 15 (nI a) b d T = ((0, b), setEx T (upd (tEx T) a 7)) := by rw [show spDo q 15 (nI a) b d T = ((0, b), setEx T (upd (tEx T) (ix (nI a)) (excI b))) from rfl, hia, x9]
        exact tail (va_up M 16 (upd (M 16) a 2)) 0 b sl _ _ _ ls hM (by rw [e9]; exact hR.ex (by decide)) (by rw [e9]) hF hS (lv_sub hl [0] rfl)
      · refine lv_iconst (v := 1) hx hb dX9_does_351 (by decide) ?_
        refine lv_goto (tgt := 356) hx hb dX9_does_352 (by decide) ?_
        refine fw_iast X hF hS (hM.2.2 16 (Or.inl (by decide))) 0 rfl (show vp_in (nI a) 4 from vp_in_nI (by omega) (by decide)) dX9_does_356 (fun H locs hF hS => ?_)
        rw [show (nI a).toNatClampNeg = a from nI_clamp (by omega)] at hF
        obtain ⟨u41, hu41⟩ : ∃ y : fW, y = va_up u2 (am 16) (some (.inl (cs 0, 4, .inl (upd (M 16) a 1)))) := ⟨_, rfl⟩
        have hM := hM.set 16 (Or.inl (by decide)) (upd (M 16) a 1)
        have hF : fw_P D cls10 A u41 H := by rw [hu41]; exact hF
        have hM : MWd cs am (va_up M 16 (upd (M 16) a 1), R, 0, 0) u41 := by rw [hu41]; exact hM
        refine lv_aload_n hx hb dX9_does_357 rfl (lv_at hl 0 rfl) ?_
        refine lv_iload_n hx hb dX9_does_358 rfl (lv_at hl 3 rfl) ?_
        refine fw_put X gC_ok hF hS hM.2.1 rfl 27 (by decide) wm_506 rfl (tf := .int) (by decide +kernel) rfl rfl (Nat.le_of_ble_eq_true rfl) dX9_does_359 (fun H locs hF hS => ?_)
        obtain ⟨u42, hu42⟩ : ∃ y : fW, y = va_up u41 (am 28) (some (mObj am (va_up M 16 (upd (M 16) a 1), R, 0, b))) := ⟨_, rfl⟩
        have hM := hM.obj R 0 b
        have hF : fw_P D cls10 A u42 H := by rw [hu42]; exact hF
        have hM : MWd cs am (va_up M 16 (upd (M 16) a 1), R, 0, b) u42 := by rw [hu42]; exact hM
        refine lv_goto (tgt := 394) hx hb dX9_does_362 (by decide) ?_
        have x9 : excI b = 6 := by simp [excI, c339_37, c348_38]
        have e9 : spDo q 15 (nI a) b d T = ((0, b), setEx T (upd (tEx T) a 6)) := by rw [show spDo q 15 (nI a) b d T = ((0, b), setEx T (upd (tEx T) (ix (nI a)) (excI b))) from rfl, hia, x9]
        exact tail (va_up M 16 (upd (M 16) a 1)) 0 b sl _ _ _ ls hM (by rw [e9]; exact hR.ex (by decide)) (by rw [e9]) hF hS (lv_sub hl [0] rfl)
    · refine lv_iconst (v := 0) hx hb dX9_does_342 (by decide) ?_
      refine lv_goto (tgt := 356) hx hb dX9_does_343 (by decide) ?_
      refine fw_iast X hF hS (hM.2.2 16 (Or.inl (by decide))) 0 rfl (show vp_in (nI a) 4 from vp_in_nI (by omega) (by decide)) dX9_does_356 (fun H locs hF hS => ?_)
      rw [show (nI a).toNatClampNeg = a from nI_clamp (by omega)] at hF
      obtain ⟨u43, hu43⟩ : ∃ y : fW, y = va_up u2 (am 16) (some (.inl (cs 0, 4, .inl (upd (M 16) a 0)))) := ⟨_, rfl⟩
      have hM := hM.set 16 (Or.inl (by decide)) (upd (M 16) a 0)
      have hF : fw_P D cls10 A u43 H := by rw [hu43]; exact hF
      have hM : MWd cs am (va_up M 16 (upd (M 16) a 0), R, 0, 0) u43 := by rw [hu43]; exact hM
      refine lv_aload_n hx hb dX9_does_357 rfl (lv_at hl 0 rfl) ?_
      refine lv_iload_n hx hb dX9_does_358 rfl (lv_at hl 3 rfl) ?_
      refine fw_put X gC_ok hF hS hM.2.1 rfl 27 (by decide) wm_506 rfl (tf := .int) (by decide +kernel) rfl rfl (Nat.le_of_ble_eq_true rfl) dX9_does_359 (fun H locs hF hS => ?_)
      obtain ⟨u44, hu44⟩ : ∃ y : fW, y = va_up u43 (am 28) (some (mObj am (va_up M 16 (upd (M 16) a 0), R, 0, b))) := ⟨_, rfl⟩
      have hM := hM.obj R 0 b
      have hF : fw_P D cls10 A u44 H := by rw [hu44]; exact hF
      have hM : MWd cs am (va_up M 16 (upd (M 16) a 0), R, 0, b) u44 := by rw [hu44]; exact hM
      refine lv_goto (tgt := 394) hx hb dX9_does_362 (by decide) ?_
      have x9 : excI b = 1 := by simp [excI, c339_37]
      have e9 : spDo q 15 (nI a) b d T = ((0, b), setEx T (upd (tEx T) a 1)) := by rw [show spDo q 15 (nI a) b d T = ((0, b), setEx T (upd (tEx T) (ix (nI a)) (excI b))) from rfl, hia, x9]
      exact tail (va_up M 16 (upd (M 16) a 0)) 0 b sl _ _ _ ls hM (by rw [e9]; exact hR.ex (by decide)) (by rw [e9]) hF hS (lv_sub hl [0] rfl)
  · refine lv_tableOut (tgt := 365) hx hb dX9_does_11 sw3 (by decide) ?_
    have k16 : k = 16 := by have := ok_k hok; exact wi16 this sw3
    subst k16
    have hl : lv_has ls 5 [(0, .ref (am 28)), (1, .int 16), (2, .int (nI a)), (3, .int b), (4, .int d)] := hl
    refine lv_iload_n hx hb dX9_does_365 rfl (lv_at hl 3 rfl) ?_
    refine lv_if_eq (tgt := 394) hx hb dX9_does_366 (by decide) (fun c366_45 => ?_) (fun c366_45 => ?_)
    · have f9 : spDo q 16 (nI a) b d T = ((if b = 0 then (0, 0) else (tEx T (ix (nI a)), 0)), T) := rfl
      rw [hia] at f9
      have e9 : spDo q 16 (nI a) b d T = ((0, 0), T) := by rw [f9, if_pos c366_45]
      exact tail M 0 0 sl _ _ _ ls hM (by rw [e9]; exact hR) (by rw [e9]) hF hS (lv_sub hl [0] rfl)
    · refine lv_aload_n hx hb dX9_does_369 rfl (lv_at hl 0 rfl) ?_
      refine lv_aload_n hx hb dX9_does_370 rfl (lv_at hl 0 rfl) ?_
      refine fw_get (v := .ref (am 16)) X gC_ok hF hM.2.1 rfl 16 (by decide) wm_495 rfl dX9_does_371 ?_
      refine lv_iload_n hx hb dX9_does_374 rfl (lv_at hl 2 rfl) ?_
      refine fw_iald X hF (hM.2.2 16 (Or.inl (by decide))) 0 rfl (show vp_in (nI a) 4 from vp_in_nI (by omega) (by decide)) (v := (M 16) a) (by rw [nI_clamp (by omega)] <;> rfl) dX9_does_375 ?_
      refine lv_if_ne (tgt := 383) hx hb dX9_does_376 (by decide) (fun c376_46 => ?_) (fun c376_46 => ?_)
      · refine lv_iconst (v := 5) hx hb dX9_does_383 (by decide) ?_
        refine lv_aload_n hx hb dX9_does_384 rfl (lv_at hl 0 rfl) ?_
        refine fw_get (v := .ref (am 16)) X gC_ok hF hM.2.1 rfl 16 (by decide) wm_495 rfl dX9_does_385 ?_
        refine lv_iload_n hx hb dX9_does_388 rfl (lv_at hl 2 rfl) ?_
        refine fw_iald X hF (hM.2.2 16 (Or.inl (by decide))) 0 rfl (show vp_in (nI a) 4 from vp_in_nI (by omega) (by decide)) (v := (M 16) a) (by rw [nI_clamp (by omega)] <;> rfl) dX9_does_389 ?_
        refine lv_iadd hx hb dX9_does_390 ?_
        refine fw_callV (As := [.int (5 + ((M 16) a))]) (rest := []) X bs_all nw_all mf_X9_fails (c_X9_fails l D cs _ _ am M R 0 0 hM (5 + ((M 16) a))) wm_594 wm_596 wm_11 hF hS rfl hM.2.1 rfl rfl ((⟨⟨Nat.le_of_ble_eq_true rfl, Nat.le_of_ble_eq_true rfl⟩, Nat.le_of_ble_eq_true rfl, Nat.le_of_ble_eq_true rfl⟩)) rfl hl.1 rfl (Nat.le_of_ble_eq_true rfl) dX9_does_391 (fun v u47 H locs hp hF hS hz1 hk1 hd1 => ?_)
        obtain ⟨hv1, hM⟩ := hp
        subst hv1
        have hM : MWd cs am (M, R, 5 + ((M 16) a), 0) u47 := hM
        refine W.eq (g2 := F0 m 394 ls []) rfl ?_
        have f9 : spDo q 16 (nI a) b d T = ((if b = 0 then (0, 0) else (tEx T (ix (nI a)), 0)), T) := rfl
        rw [hia] at f9
        have m9 := hR.2.2.2.2.2.2.1 a ha
        have x9 : 5 + (M 16) a = tEx T a := by rcases hI.2.2.2.2.2 a ha with z | z | z <;> rw [z] at m9 ⊢ <;> first | exact absurd m9 c376_46 | (rw [m9]; decide)
        have e9 : spDo q 16 (nI a) b d T = ((5 + (M 16) a, 0), T) := by rw [f9, if_neg c366_45, x9]
        exact tail M (5 + ((M 16) a)) 0 sl _ _ _ ls hM (by rw [e9]; exact hR) (by rw [e9]) hF hS (lv_sub hl [0] rfl)
      · refine lv_iconst (v := 1) hx hb dX9_does_379 (by decide) ?_
        refine lv_goto (tgt := 391) hx hb dX9_does_380 (by decide) ?_
        refine fw_callV (As := [.int 1]) (rest := []) X bs_all nw_all mf_X9_fails (c_X9_fails l D cs _ _ am M R 0 0 hM 1) wm_594 wm_596 wm_11 hF hS rfl hM.2.1 rfl rfl ((⟨⟨Nat.le_of_ble_eq_true rfl, Nat.le_of_ble_eq_true rfl⟩, Nat.le_of_ble_eq_true rfl, Nat.le_of_ble_eq_true rfl⟩)) rfl hl.1 rfl (Nat.le_of_ble_eq_true rfl) dX9_does_391 (fun v u48 H locs hp hF hS hz1 hk1 hd1 => ?_)
        obtain ⟨hv1, hM⟩ := hp
        subst hv1
        have hM : MWd cs am (M, R, 1, 0) u48 := hM
        refine W.eq (g2 := F0 m 394 ls []) rfl ?_
        have f9 : spDo q 16 (nI a) b d T = ((if b = 0 then (0, 0) else (tEx T (ix (nI a)), 0)), T) := rfl
        rw [hia] at f9
        have m9 := hR.2.2.2.2.2.2.1 a ha
        have x9 : tEx T a = 1 := by rw [c376_46] at m9; rcases hI.2.2.2.2.2 a ha with z | z | z <;> rw [z] at m9 <;> first | exact z | exact absurd m9 (by decide)
        have e9 : spDo q 16 (nI a) b d T = ((1, 0), T) := by rw [f9, if_neg c366_45, x9]
        exact tail M 1 0 sl _ _ _ ls hM (by rw [e9]; exact hR) (by rw [e9]) hF hS (lv_sub hl [0] rfl)
