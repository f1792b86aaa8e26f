set_option maxHeartbeats 4000000 in
set_option maxRecDepth 100000 in
theorem c_X3_init (l : Launch) (D : va_G) (cs : Nat → ClassId) (w : fW) (sz : Nat) (h0 : Nat) (h : w h0 = some (.inr (3, [.null, .int 0, .int 0]))) : gM l bs_B nw_B D cls10 (tyl cs) yX3_init cX3_init 1 none 1 20 1 12 w sz [.ref h0] (fun v w' => v = none ∧ ∃ q, w q = none ∧ w' = va_up (va_up w q (some (.inl (cs 7, 12, .inr (.inr (.inr (.inr (fun _ => none)))))))) h0 (some (.inr (3, [.ref q, .int (-1), .int 0])))) := by
  refine gM.of (by decide +kernel) (Nat.le_of_ble_eq_true rfl) (fun p e s m below meth c A ls X hsz hnm hF hS hl => ?_)
  have hx := X.1
  have hb := X.2.1
  have hl : lv_has ls 1 [(0, .ref h0)] := hl
  have h : w h0 = some (.inr (3, [.null, .int 0, .int 0])) := h
  refine lv_aload_n hx hb dX3_init_0 rfl (lv_at hl 0 rfl) ?_
  refine W.objInit hx hb X.2.2.2.1 (X.2.2.2.2.1 _ wm_131) (X.2.2.2.2.1 _ wm_42) (X.2.2.2.2.1 _ wm_43) rfl (by rw [X.2.2.1]; exact hl.1) rfl dX3_init_1 (Nat.le_of_ble_eq_true rfl) (Nat.le_of_ble_eq_true rfl) ?_
  refine W.eq (g2 := F0 m 4 ls []) rfl ?_
  refine lv_aload_n hx hb dX3_init_4 rfl (lv_at hl 0 rfl) ?_
  refine lv_bipush (v := 12) hx hb dX3_init_5 (by decide) ?_
  refine fw_newq X hF hS wm_132 nm_133 7 rfl (N' := 12) (by decide) (by decide) (by decide) (Nat.le_of_ble_eq_true rfl) (Nat.le_of_ble_eq_true rfl) dX3_init_7 (fun q1 H nq1 zq1 zzq1 hF hS => ?_)
  refine fw_putF X gC_ok hF hS ((va_up_ne _ _ (gx_ne h nq1)).trans h) rfl 0 (by decide) wm_134 rfl hnm rfl (tf := .array (.object "CycleShop$Wheel")) (by decide +kernel) rfl rfl (Nat.le_of_ble_eq_true rfl) dX3_init_10 (fun H locs hF hS => ?_)
  have hF : fw_P D cls10 A (va_up (va_up w q1 (some (.inl (cs 7, 12, .inr (.inr (.inr (.inr (fun _ => none)))))))) h0 (some (.inr (3, [.ref q1, .int 0, .int 0])))) H := hF
  refine lv_aload_n hx hb dX3_init_13 rfl (lv_at hl 0 rfl) ?_
  refine lv_iconst (v := (-1)) hx hb dX3_init_14 (by decide) ?_
  refine fw_put X gC_ok hF hS (va_up_self _ _ _) rfl 1 (by decide) wm_135 rfl (tf := .int) (by decide +kernel) rfl rfl (Nat.le_of_ble_eq_true rfl) dX3_init_15 (fun H locs hF hS => ?_)
  rw [bx_uu] at hF
  have hF : fw_P D cls10 A (va_up (va_up w q1 (some (.inl (cs 7, 12, .inr (.inr (.inr (.inr (fun _ => none)))))))) h0 (some (.inr (3, [.ref q1, .int (-1), .int 0])))) H := hF
  refine fw_vret X hF hS ?_ (Nat.le_of_ble_eq_true rfl) (Nat.le_of_ble_eq_true rfl) dX3_init_18
  exact ⟨rfl, _, nq1, by simp only [bx_uu]⟩
set_option maxHeartbeats 4000000 in
set_option maxRecDepth 100000 in
theorem c_X3_make (l : Launch) (D : va_G) (cs : Nat → ClassId) (w : fW) (sz : Nat) (h0 h1 : Nat) (n : Int32) (di : Bool) (f : Nat → Option Nat) (h : w h0 = some (.inr (3, [.ref h1, .int n, .int (bz di)]))) (g : w h1 = some (.inl (cs 7, 12, .inr (.inr (.inr (.inr f)))))) (b : Int32) (k : Bool) : gM l bs_B nw_B D cls10 (tyl cs) yX3_make cX3_make 4 (some .long) 1 20 0 0 w sz [.ref h0, .int b, .int (bz k)] (fun v w' => ((b < 0 ∨ 12 < b) ∧ v = some (.long (fl 2)) ∧ w' = w) ∨ (¬ (b < 0 ∨ 12 < b) ∧ v = some (.long b.toInt64) ∧ w' = va_up (va_up w h1 (some (.inl (cs 7, 12, .inr (.inr (.inr (.inr (fun _ => none)))))))) h0 (some (.inr (3, [.ref h1, .int b, .int (bz k)]))))) := by
  refine gM.of (by decide +kernel) (Nat.le_of_ble_eq_true rfl) (fun p e s m below meth c A ls X hsz hnm hF hS hl => ?_)
  have hx := X.1
  have hb := X.2.1
  have loop : ¬ (b < 0 ∨ 12 < b) → ∀ (n9 i : Nat), i + n9 = 12 → ∀ (H : Heap) (locs : List Loc) (ls : Array Slot), fw_P D cls10 A (va_up w h1 (some (.inl (cs 7, 12, .inr (.inr (.inr (.inr (fun j => if j < i then none else f j)))))))) H → va_S A s.heap H locs → lv_has ls 4 [(0, .ref h0), (1, .int b), (2, .int (bz k)), (3, .int (nI i))] → W p l e ({ frames := 1, cells := 0, slots := 0, locals := 20 } : Room) s m ([.ref h0, .int b, .int (bz k)] : List Value).toArray below meth c H locs 0 0 (MQ below (gQ D cls10 A (fun v w' => ((b < 0 ∨ 12 < b) ∧ v = some (.long (fl 2)) ∧ w' = w) ∨ (¬ (b < 0 ∨ 12 < b) ∧ v = some (.long b.toInt64) ∧ w' = va_up (va_up w h1 (some (.inl (cs 7, 12, .inr (.inr (.inr (.inr (fun _ => none)))))))) h0 (some (.inr (3, [.ref h1, .int b, .int (bz k)])))))) ([.ref h0, .int b, .int (bz k)] : List Value).toArray s 0 0 A) (F0 m 17 ls []) := by
    intro hsz9 n9
    induction n9 with
    | zero =>
      intro i hi H locs ls hF hS hl
      refine lv_iload_n hx hb dX3_make_17 rfl (lv_at hl 3 rfl) ?_
      refine lv_bipush (v := 12) hx hb dX3_make_18 (by decide) ?_
      refine lv_icmp_ge (tgt := 36) hx hb dX3_make_20 (by decide) (fun c20_1 => ?_) (fun c20_1 => ?_)
      · have hF := hF.arq (g := fun _ => none) (fun j hj => if_pos (by omega))
        refine lv_aload_n hx hb dX3_make_36 rfl (lv_at hl 0 rfl) ?_
        refine lv_iload_n hx hb dX3_make_37 rfl (lv_at hl 1 rfl) ?_
        refine fw_put X gC_ok hF hS ((va_up_ne _ _ (gx_neA h g)).trans h) rfl 1 (by decide) wm_135 rfl (tf := .int) (by decide +kernel) rfl rfl (Nat.le_of_ble_eq_true rfl) dX3_make_38 (fun H locs hF hS => ?_)
        have hF : fw_P D cls10 A (va_up (va_up w h1 (some (.inl (cs 7, 12, .inr (.inr (.inr (.inr (fun _ => none)))))))) h0 (some (.inr (3, [.ref h1, .int b, .int (bz di)])))) H := hF
        refine lv_aload_n hx hb dX3_make_41 rfl (lv_at hl 0 rfl) ?_
        refine lv_iload_n hx hb dX3_make_42 rfl (lv_at hl 2 rfl) ?_
        refine fw_put X gC_ok hF hS (va_up_self _ _ _) rfl 2 (by decide) wm_137 rfl (tf := .boolean) (by decide +kernel) (gx_nbz _) (gx_fbz _) (Nat.le_of_ble_eq_true rfl) dX3_make_43 (fun H locs hF hS => ?_)
        rw [bx_uu] at hF
        have hF : fw_P D cls10 A (va_up (va_up w h1 (some (.inl (cs 7, 12, .inr (.inr (.inr (.inr (fun _ => none)))))))) h0 (some (.inr (3, [.ref h1, .int b, .int (bz k)])))) H := hF
        refine lv_iload_n hx hb dX3_make_46 rfl (lv_at hl 1 rfl) ?_
        refine lv_i2l hx hb dX3_make_47 rfl ?_
        refine fw_lret X hF hS ?_ (Nat.le_of_ble_eq_true rfl) (Nat.le_of_ble_eq_true rfl) dX3_make_48
        exact Or.inr ⟨hsz9, rfl, rfl⟩
      · exact absurd (show nI 12 ≤ nI i from nI_le (by omega) (by omega)) c20_1
    | succ n9 ih =>
      intro i hi H locs ls hF hS hl
      refine lv_iload_n hx hb dX3_make_17 rfl (lv_at hl 3 rfl) ?_
      refine lv_bipush (v := 12) hx hb dX3_make_18 (by decide) ?_
      refine lv_icmp_ge (tgt := 36) hx hb dX3_make_20 (by decide) (fun c20_1 => ?_) (fun c20_1 => ?_)
      · exact absurd (show nI 12 ≤ nI i from c20_1) (nI_ge (by omega) (by decide))
      · refine lv_aload_n hx hb dX3_make_23 rfl (lv_at hl 0 rfl) ?_
        refine fw_get X gC_ok hF ((va_up_ne _ _ (gx_neA h g)).trans h) rfl 0 (by decide) wm_134 rfl dX3_make_24 ?_
        refine lv_iload_n hx hb dX3_make_27 rfl (lv_at hl 3 rfl) ?_
        refine lv_null hx hb dX3_make_28 ?_
        refine fw_astqN X hF hS (va_up_self _ _ _) 7 rfl (vp_in_nI (by omega) (by decide)) dX3_make_29 (fun H locs hF hS => ?_)
        rw [show (nI i).toNatClampNeg = i from nI_clamp (by omega)] at hF
        rw [bx_uu, none_step] at hF
        refine lv_iinc (v := nI (i + 1)) (lv' := [(3, .int (nI (i + 1))), (0, .ref h0), (1, .int b), (2, .int (bz k))]) hx hb dX3_make_30 hl (k := 3) rfl (nI_1 i) (by decide) rfl (fun ls hl => ?_)
        refine lv_goto (tgt := 17) hx hb dX3_make_33 (by decide) ?_
        exact ih (i + 1) (by omega) H locs ls hF hS (lv_sub hl [1, 2, 3, 0] rfl)
  have hl : lv_has ls 4 [(0, .ref h0), (1, .int b), (2, .int (bz k))] := hl
  refine lv_iload_n hx hb dX3_make_0 rfl (lv_at hl 1 rfl) ?_
  refine lv_if_lt (tgt := 10) hx hb dX3_make_1 (by decide) (fun c1_1 => ?_) (fun c1_1 => ?_)
  · refine lv_iconst (v := 2) hx hb dX3_make_10 (by decide) ?_
    refine fw_callSN (As := [.int 2]) (rest := []) X bs_all nw_all mf_X8_failure (c_X8_failure l D cs _ _ 2) nm_292 wm_233 hF hS rfl ((⟨⟨Nat.le_of_ble_eq_true rfl, Nat.le_of_ble_eq_true rfl⟩, Nat.le_of_ble_eq_true rfl, Nat.le_of_ble_eq_true rfl⟩)) rfl hl.1 rfl (Nat.le_of_ble_eq_true rfl) dX3_make_11 (fun v u2 H locs hp hF hS hz1 hk1 hd1 => ?_)
    obtain ⟨rfl, hw1⟩ := hp
    rw [hw1] at hF
    refine W.eq (g2 := F0 m 14 ls [.long (fl 2)]) rfl ?_
    refine fw_lret X hF hS ?_ (Nat.le_of_ble_eq_true rfl) (Nat.le_of_ble_eq_true rfl) dX3_make_14
    exact Or.inl ⟨Or.inl c1_1, rfl, rfl⟩
  · refine lv_iload_n hx hb dX3_make_4 rfl (lv_at hl 1 rfl) ?_
    refine lv_bipush (v := 12) hx hb dX3_make_5 (by decide) ?_
    refine lv_icmp_le (tgt := 15) hx hb dX3_make_7 (by decide) (fun c7_3 => ?_) (fun c7_3 => ?_)
    · refine lv_iconst (v := 0) hx hb dX3_make_15 (by decide) ?_
      refine lv_istore_n (lv' := [(3, .int 0), (0, .ref h0), (1, .int b), (2, .int (bz k))]) hx hb dX3_make_16 rfl hl (by decide) rfl (fun ls hl => ?_)
      refine loop (fun q => q.elim c1_1 (fun z => i_nlt.mpr c7_3 z)) 12 0 (by omega) _ _ ls ?_ hS (lv_sub hl [1, 2, 3, 0] rfl)
      rw [gx_upid (by simpa using g)]
      exact hF
    · refine lv_iconst (v := 2) hx hb dX3_make_10 (by decide) ?_
      refine fw_callSN (As := [.int 2]) (rest := []) X bs_all nw_all mf_X8_failure (c_X8_failure l D cs _ _ 2) nm_292 wm_233 hF hS rfl ((⟨⟨Nat.le_of_ble_eq_true rfl, Nat.le_of_ble_eq_true rfl⟩, Nat.le_of_ble_eq_true rfl, Nat.le_of_ble_eq_true rfl⟩)) rfl hl.1 rfl (Nat.le_of_ble_eq_true rfl) dX3_make_11 (fun v u4 H locs hp hF hS hz1 hk1 hd1 => ?_)
      obtain ⟨rfl, hw1⟩ := hp
      rw [hw1] at hF
      refine W.eq (g2 := F0 m 14 ls [.long (fl 2)]) rfl ?_
      refine fw_lret X hF hS ?_ (Nat.le_of_ble_eq_true rfl) (Nat.le_of_ble_eq_true rfl) dX3_make_14
      exact Or.inl ⟨Or.inr (i_nle.mp c7_3), rfl, rfl⟩
set_option maxHeartbeats 4000000 in
set_option maxRecDepth 100000 in
theorem c_X3_hang (l : Launch) (D : va_G) (cs : Nat → ClassId) (w : fW) (sz : Nat) (h0 h1 : Nat) (n : Int32) (di : Bool) (f : Nat → Option Nat) (h : w h0 = some (.inr (3, [.ref h1, .int n, .int (bz di)]))) (g : w h1 = some (.inl (cs 7, 12, .inr (.inr (.inr (.inr f)))))) (t0 : Nat) (bk : Bool) (fr : Int32) (fo re : Option Nat) (la ch : Int32) (ht : w t0 = some (cSt (bk, fr, fo, re, la, ch))) (W9 : Nat → aWh) (hfo : ∀ q, fo = some q → w q = some (cWh (W9 q))) (i : Int32) (hn : n ≤ 12) : gM l bs_B nw_B D cls10 (tyl cs) yX3_hang cX3_hang 4 (some .long) 1 21 0 0 w sz [.ref h0, .int i, .ref t0] (fun v w' => ((n = -1 ∨ bk = false) ∧ v = some (.long (fl 1)) ∧ w' = w) ∨ (¬ (n = -1 ∨ bk = false) ∧ wi i n = false ∧ v = some (.long (fl 3)) ∧ w' = w) ∨ (¬ (n = -1 ∨ bk = false) ∧ wi i n = true ∧ (di = true ∧ ∃ q, fo = some q ∧ (W9 q).2.1 = false) ∧ v = some (.long (fl 4)) ∧ w' = w) ∨ (¬ (n = -1 ∨ bk = false) ∧ wi i n = true ∧ ¬ (di = true ∧ ∃ q, fo = some q ∧ (W9 q).2.1 = false) ∧ v = some (.long 1) ∧ w' = va_up w h1 (some (.inl (cs 7, 12, .inr (.inr (.inr (.inr (va_up f (ix i) fo))))))))) := by
  refine gM.of (by decide +kernel) (Nat.le_of_ble_eq_true rfl) (fun p e s m below meth c A ls X hsz hnm hF hS hl => ?_)
  have hx := X.1
  have hb := X.2.1
  have hl : lv_has ls 4 [(0, .ref h0), (1, .int i), (2, .ref t0)] := hl
  have h : w h0 = some (.inr (3, [.ref h1, .int n, .int (bz di)])) := h
  have g : w h1 = some (.inl (cs 7, 12, .inr (.inr (.inr (.inr f))))) := g
  have ht : w t0 = some (.inr (5, [.int (bz bk), .int fr, va_rf fo, va_rf re, .int la, .int ch])) := ht
  refine lv_aload_n hx hb dX3_hang_0 rfl (lv_at hl 0 rfl) ?_
  refine fw_get X gC_ok hF h rfl 1 (by decide) wm_135 rfl dX3_hang_1 ?_
  refine lv_iconst (v := (-1)) hx hb dX3_hang_4 (by decide) ?_
  refine lv_icmp_eq (tgt := 15) hx hb dX3_hang_5 (by decide) (fun c5_1 => ?_) (fun c5_1 => ?_)
  · refine lv_iconst (v := 1) hx hb dX3_hang_15 (by decide) ?_
    refine fw_callSN (As := [.int 1]) (rest := []) X bs_all nw_all mf_X8_failure (c_X8_failure l D cs _ _ 1) nm_292 wm_233 hF hS rfl ((⟨⟨Nat.le_of_ble_eq_true rfl, Nat.le_of_ble_eq_true rfl⟩, Nat.le_of_ble_eq_true rfl, Nat.le_of_ble_eq_true rfl⟩)) rfl hl.1 rfl (Nat.le_of_ble_eq_true rfl) dX3_hang_16 (fun v u2 H locs hp hF hS hz1 hk1 hd1 => ?_)
    obtain ⟨rfl, hw1⟩ := hp
    rw [hw1] at hF
    refine W.eq (g2 := F0 m 19 ls [.long (fl 1)]) rfl ?_
    refine fw_lret X hF hS ?_ (Nat.le_of_ble_eq_true rfl) (Nat.le_of_ble_eq_true rfl) dX3_hang_19
    exact Or.inl ⟨Or.inl c5_1, rfl, rfl⟩
  · refine lv_aload_n hx hb dX3_hang_8 rfl (lv_at hl 2 rfl) ?_
    refine fw_get X gC_ok hF ht rfl 0 (by decide) wm_92 rfl dX3_hang_9 ?_
    refine gx_ifne (tgt := 20) hx hb dX3_hang_12 (by decide) (fun c12_3 => ?_) (fun c12_3 => ?_)
    · refine lv_iload_n hx hb dX3_hang_20 rfl (lv_at hl 1 rfl) ?_
      refine lv_aload_n hx hb dX3_hang_21 rfl (lv_at hl 0 rfl) ?_
      refine fw_get X gC_ok hF h rfl 1 (by decide) wm_135 rfl dX3_hang_22 ?_
      refine fw_callSN (As := [.int i, .int n]) (rest := []) X bs_all nw_all mf_X8_isWithin (c_X8_isWithin l D cs _ _ i n) nm_329 wm_209 hF hS rfl ((⟨⟨Nat.le_of_ble_eq_true rfl, Nat.le_of_ble_eq_true rfl⟩, Nat.le_of_ble_eq_true rfl, Nat.le_of_ble_eq_true rfl⟩)) rfl hl.1 rfl (Nat.le_of_ble_eq_true rfl) dX3_hang_25 (fun v u4 H locs hp hF hS hz1 hk1 hd1 => ?_)
      obtain ⟨rfl, hw1⟩ := hp
      rw [hw1] at hF
      refine W.eq (g2 := F0 m 28 ls [.int (bz (wi i n))]) rfl ?_
      refine gx_ifne (tgt := 36) hx hb dX3_hang_28 (by decide) (fun c28_5 => ?_) (fun c28_5 => ?_)
      · refine lv_aload_n hx hb dX3_hang_36 rfl (lv_at hl 2 rfl) ?_
        refine fw_get X gC_ok hF ht rfl 2 (by decide) wm_95 rfl dX3_hang_37 ?_
        refine gx_astore_nq (i := 3) (lv' := [(3, va_rf fo), (0, .ref h0), (1, .int i), (2, .ref t0)]) hx hb dX3_hang_40 rfl hl (by decide) (by simp [gx_cat, Value.category]) (fun ls hl => ?_)
        refine lv_aload_n hx hb dX3_hang_41 rfl (lv_at hl 1 rfl) ?_
        refine fw_get X gC_ok hF h rfl 2 (by decide) wm_137 rfl dX3_hang_42 ?_
        refine gx_ifeq (tgt := 64) hx hb dX3_hang_45 (by decide) (fun c45_6 => ?_) (fun c45_6 => ?_)
        · refine lv_aload_n hx hb dX3_hang_64 rfl (lv_at hl 1 rfl) ?_
          refine fw_get X gC_ok hF h rfl 0 (by decide) wm_134 rfl dX3_hang_65 ?_
          refine lv_iload_n hx hb dX3_hang_68 rfl (lv_at hl 2 rfl) ?_
          refine gx_aload_nq hx hb dX3_hang_69 rfl (lv_at hl 0 rfl) ?_
          refine fw_astqQ X hF hS g 7 rfl (fun q hq => ⟨_, hfo q hq⟩) rfl (wi_in (wi_le c28_5 hn) (N := 12) (by decide)) dX3_hang_70 (fun H locs hF hS => ?_)
          have hF : fw_P D cls10 A (va_up w h1 (some (.inl (cs 7, 12, .inr (.inr (.inr (.inr (va_up f (ix i) fo)))))))) H := hF
          refine lv_lconst (v := 1) hx hb dX3_hang_71 (by decide) ?_
          refine fw_lret X hF hS ?_ (Nat.le_of_ble_eq_true rfl) (Nat.le_of_ble_eq_true rfl) dX3_hang_72
          exact Or.inr (Or.inr (Or.inr ⟨(fun q => q.elim c5_1 (fun z => by rw [c12_3] at z; cases z)), c28_5, (fun z => by rw [c45_6] at z; cases z.1), rfl, rfl⟩))
        · refine gx_aload_nq hx hb dX3_hang_48 rfl (lv_at hl 0 rfl) ?_
          refine gx_ifnull (tgt := 64) hx hb dX3_hang_49 (by decide) (fun hq7 => ?_) (fun q7 hq7 => ?_)
          · subst hq7
            have ht : w t0 = some (.inr (5, [.int (bz bk), .int fr, .null, va_rf re, .int la, .int ch])) := ht
            have hl : lv_has ls 4 [(3, .null), (0, .ref h0), (1, .int i), (2, .ref t0)] := hl
            refine lv_aload_n hx hb dX3_hang_64 rfl (lv_at hl 1 rfl) ?_
            refine fw_get X gC_ok hF h rfl 0 (by decide) wm_134 rfl dX3_hang_65 ?_
            refine lv_iload_n hx hb dX3_hang_68 rfl (lv_at hl 2 rfl) ?_
            refine lv_aload_nN hx hb dX3_hang_69 rfl (lv_at hl 0 rfl) ?_
            refine fw_astqN X hF hS g 7 rfl (wi_in (wi_le c28_5 hn) (N := 12) (by decide)) dX3_hang_70 (fun H locs hF hS => ?_)
            have hF : fw_P D cls10 A (va_up w h1 (some (.inl (cs 7, 12, .inr (.inr (.inr (.inr (va_up f (ix i) none)))))))) H := hF
            refine lv_lconst (v := 1) hx hb dX3_hang_71 (by decide) ?_
            refine fw_lret X hF hS ?_ (Nat.le_of_ble_eq_true rfl) (Nat.le_of_ble_eq_true rfl) dX3_hang_72
            exact Or.inr (Or.inr (Or.inr ⟨(fun q => q.elim c5_1 (fun z => by rw [c12_3] at z; cases z)), c28_5, (fun z => by obtain ⟨-, q, e1, -⟩ := z; cases e1), rfl, rfl⟩))
          · subst hq7
            have ht : w t0 = some (.inr (5, [.int (bz bk), .int fr, .ref q7, va_rf re, .int la, .int ch])) := ht
            have hl : lv_has ls 4 [(3, .ref q7), (0, .ref h0), (1, .int i), (2, .ref t0)] := hl
            refine lv_aload_n hx hb dX3_hang_52 rfl (lv_at hl 0 rfl) ?_
            refine fw_get X gC_ok hF (hfo _ rfl) rfl 1 (by decide) wm_245 rfl dX3_hang_53 ?_
            refine gx_ifne (tgt := 64) hx hb dX3_hang_56 (by decide) (fun c56_8 => ?_) (fun c56_8 => ?_)
            · refine lv_aload_n hx hb dX3_hang_64 rfl (lv_at hl 1 rfl) ?_
              refine fw_get X gC_ok hF h rfl 0 (by decide) wm_134 rfl dX3_hang_65 ?_
              refine lv_iload_n hx hb dX3_hang_68 rfl (lv_at hl 2 rfl) ?_
              refine lv_aload_n hx hb dX3_hang_69 rfl (lv_at hl 0 rfl) ?_
              refine fw_astq X hF hS g 7 rfl (hfo _ rfl) rfl (wi_in (wi_le c28_5 hn) (N := 12) (by decide)) dX3_hang_70 (fun H locs hF hS => ?_)
              have hF : fw_P D cls10 A (va_up w h1 (some (.inl (cs 7, 12, .inr (.inr (.inr (.inr (va_up f (ix i) (some q7))))))))) H := hF
              refine lv_lconst (v := 1) hx hb dX3_hang_71 (by decide) ?_
              refine fw_lret X hF hS ?_ (Nat.le_of_ble_eq_true rfl) (Nat.le_of_ble_eq_true rfl) dX3_hang_72
              exact Or.inr (Or.inr (Or.inr ⟨(fun q => q.elim c5_1 (fun z => by rw [c12_3] at z; cases z)), c28_5, (fun z => by obtain ⟨-, q, e1, e2⟩ := z; cases e1; rw [c56_8] at e2; cases e2), rfl, rfl⟩))
            · refine lv_iconst (v := 4) hx hb dX3_hang_59 (by decide) ?_
              refine fw_callSN (As := [.int 4]) (rest := []) X bs_all nw_all mf_X8_failure (c_X8_failure l D cs _ _ 4) nm_292 wm_233 hF hS rfl ((⟨⟨Nat.le_of_ble_eq_true rfl, Nat.le_of_ble_eq_true rfl⟩, Nat.le_of_ble_eq_true rfl, Nat.le_of_ble_eq_true rfl⟩)) rfl hl.1 rfl (Nat.le_of_ble_eq_true rfl) dX3_hang_60 (fun v u9 H locs hp hF hS hz1 hk1 hd1 => ?_)
              obtain ⟨rfl, hw1⟩ := hp
              rw [hw1] at hF
              refine W.eq (g2 := F0 m 63 ls [.long (fl 4)]) rfl ?_
              refine fw_lret X hF hS ?_ (Nat.le_of_ble_eq_true rfl) (Nat.le_of_ble_eq_true rfl) dX3_hang_63
              exact Or.inr (Or.inr (Or.inl ⟨(fun q => q.elim c5_1 (fun z => by rw [c12_3] at z; cases z)), c28_5, ⟨c45_6, q7, rfl, c56_8⟩, rfl, rfl⟩))
      · refine lv_iconst (v := 3) hx hb dX3_hang_31 (by decide) ?_
        refine fw_callSN (As := [.int 3]) (rest := []) X bs_all nw_all mf_X8_failure (c_X8_failure l D cs _ _ 3) nm_292 wm_233 hF hS rfl ((⟨⟨Nat.le_of_ble_eq_true rfl, Nat.le_of_ble_eq_true rfl⟩, Nat.le_of_ble_eq_true rfl, Nat.le_of_ble_eq_true rfl⟩)) rfl hl.1 rfl (Nat.le_of_ble_eq_true rfl) dX3_hang_32 (fun v u10 H locs hp hF hS hz1 hk1 hd1 => ?_)
        obtain ⟨rfl, hw1⟩ := hp
        rw [hw1] at hF
        refine W.eq (g2 := F0 m 35 ls [.long (fl 3)]) rfl ?_
        refine fw_lret X hF hS ?_ (Nat.le_of_ble_eq_true rfl) (Nat.le_of_ble_eq_true rfl) dX3_hang_35
        exact Or.inr (Or.inl ⟨(fun q => q.elim c5_1 (fun z => by rw [c12_3] at z; cases z)), c28_5, rfl, rfl⟩)
    · refine lv_iconst (v := 1) hx hb dX3_hang_15 (by decide) ?_
      refine fw_callSN (As := [.int 1]) (rest := []) X bs_all nw_all mf_X8_failure (c_X8_failure l D cs _ _ 1) nm_292 wm_233 hF hS rfl ((⟨⟨Nat.le_of_ble_eq_true rfl, Nat.le_of_ble_eq_true rfl⟩, Nat.le_of_ble_eq_true rfl, Nat.le_of_ble_eq_true rfl⟩)) rfl hl.1 rfl (Nat.le_of_ble_eq_true rfl) dX3_hang_16 (fun v u11 H locs hp hF hS hz1 hk1 hd1 => ?_)
      obtain ⟨rfl, hw1⟩ := hp
      rw [hw1] at hF
      refine W.eq (g2 := F0 m 19 ls [.long (fl 1)]) rfl ?_
      refine fw_lret X hF hS ?_ (Nat.le_of_ble_eq_true rfl) (Nat.le_of_ble_eq_true rfl) dX3_hang_19
      exact Or.inl ⟨Or.inr c12_3, rfl, rfl⟩
set_option maxHeartbeats 4000000 in
set_option maxRecDepth 100000 in
theorem c_X3_balance (l : Launch) (D : va_G) (cs : Nat → ClassId) (w : fW) (sz : Nat) (h0 h1 : Nat) (n : Int32) (di : Bool) (f : Nat → Option Nat) (h : w h0 = some (.inr (3, [.ref h1, .int n, .int (bz di)]))) (g : w h1 = some (.inl (cs 7, 12, .inr (.inr (.inr (.inr f)))))) (i : Int32) (W9 : Nat → aWh) (hpl : wi i n = true → ∀ q, f (ix i) = some q → w q = some (cWh (W9 q))) (hn : n ≤ 12) : gM l bs_B nw_B D cls10 (tyl cs) yX3_balance cX3_balance 3 (some .long) 1 21 0 0 w sz [.ref h0, .int i] (fun v w' => (n = -1 ∧ v = some (.long (fl 1)) ∧ w' = w) ∨ (¬ n = -1 ∧ wi i n = false ∧ v = some (.long (fl 3)) ∧ w' = w) ∨ (¬ n = -1 ∧ wi i n = true ∧ f (ix i) = none ∧ v = some (.long (fl 1)) ∧ w' = w) ∨ (¬ n = -1 ∧ wi i n = true ∧ ∃ q, f (ix i) = some q ∧ (W9 q).2.1 = false ∧ v = some (.long (fl 5)) ∧ w' = w) ∨ (¬ n = -1 ∧ wi i n = true ∧ ∃ q, f (ix i) = some q ∧ (W9 q).2.1 = true ∧ v = some (.long (1000 + (W9 q).1).toInt64) ∧ w' = va_up w q (some (cWh ((W9 q).1, (W9 q).2.1, 0))))) := by
  refine gM.of (by decide +kernel) (Nat.le_of_ble_eq_true rfl) (fun p e s m below meth c A ls X hsz hnm hF hS hl => ?_)
  have hx := X.1
  have hb := X.2.1
  have hl : lv_has ls 3 [(0, .ref h0), (1, .int i)] := hl
  have h : w h0 = some (.inr (3, [.ref h1, .int n, .int (bz di)])) := h
  have g : w h1 = some (.inl (cs 7, 12, .inr (.inr (.inr (.inr f))))) := g
  refine lv_aload_n hx hb dX3_balance_0 rfl (lv_at hl 0 rfl) ?_
  refine fw_get X gC_ok hF h rfl 1 (by decide) wm_135 rfl dX3_balance_1 ?_
  refine lv_iconst (v := (-1)) hx hb dX3_balance_4 (by decide) ?_
  refine lv_icmp_ne (tgt := 13) hx hb dX3_balance_5 (by decide) (fun c5_1 => ?_) (fun c5_1 => ?_)
  · refine lv_iload_n hx hb dX3_balance_13 rfl (lv_at hl 1 rfl) ?_
    refine lv_aload_n hx hb dX3_balance_14 rfl (lv_at hl 0 rfl) ?_
    refine fw_get X gC_ok hF h rfl 1 (by decide) wm_135 rfl dX3_balance_15 ?_
    refine fw_callSN (As := [.int i, .int n]) (rest := []) X bs_all nw_all mf_X8_isWithin (c_X8_isWithin l D cs _ _ i n) nm_329 wm_209 hF hS rfl ((⟨⟨Nat.le_of_ble_eq_true rfl, Nat.le_of_ble_eq_true rfl⟩, Nat.le_of_ble_eq_true rfl, Nat.le_of_ble_eq_true rfl⟩)) rfl hl.1 rfl (Nat.le_of_ble_eq_true rfl) dX3_balance_18 (fun v u2 H locs hp hF hS hz1 hk1 hd1 => ?_)
    obtain ⟨rfl, hw1⟩ := hp
    rw [hw1] at hF
    refine W.eq (g2 := F0 m 21 ls [.int (bz (wi i n))]) rfl ?_
    refine gx_ifne (tgt := 29) hx hb dX3_balance_21 (by decide) (fun c21_3 => ?_) (fun c21_3 => ?_)
    · refine lv_aload_n hx hb dX3_balance_29 rfl (lv_at hl 0 rfl) ?_
      refine fw_get X gC_ok hF h rfl 0 (by decide) wm_134 rfl dX3_balance_30 ?_
      refine lv_iload_n hx hb dX3_balance_33 rfl (lv_at hl 1 rfl) ?_
      refine fw_aldq X hF g 7 rfl (wi_in (wi_le c21_3 hn) (N := 12) (by decide)) (v := f (ix i)) rfl dX3_balance_34 ?_
      refine gx_astore_nq (i := 2) (lv' := [(2, va_rf (f (ix i))), (0, .ref h0), (1, .int i)]) hx hb dX3_balance_35 rfl hl (by decide) (by simp [gx_cat, Value.category]) (fun ls hl => ?_)
      refine gx_aload_nq hx hb dX3_balance_36 rfl (lv_at hl 0 rfl) ?_
      refine gx_ifnonnull (tgt := 45) hx hb dX3_balance_37 (by decide) (fun hq4 => ?_) (fun q4 hq4 => ?_)
      · have hl : lv_has ls 3 [(2, .null), (0, .ref h0), (1, .int i)] := by rw [hq4] at hl; exact hl
        refine lv_iconst (v := 1) hx hb dX3_balance_40 (by decide) ?_
        refine fw_callSN (As := [.int 1]) (rest := []) X bs_all nw_all mf_X8_failure (c_X8_failure l D cs _ _ 1) nm_292 wm_233 hF hS rfl ((⟨⟨Nat.le_of_ble_eq_true rfl, Nat.le_of_ble_eq_true rfl⟩, Nat.le_of_ble_eq_true rfl, Nat.le_of_ble_eq_true rfl⟩)) rfl hl.1 rfl (Nat.le_of_ble_eq_true rfl) dX3_balance_41 (fun v u5 H locs hp hF hS hz1 hk1 hd1 => ?_)
        obtain ⟨rfl, hw1⟩ := hp
        rw [hw1] at hF
        refine W.eq (g2 := F0 m 44 ls [.long (fl 1)]) rfl ?_
        refine fw_lret X hF hS ?_ (Nat.le_of_ble_eq_true rfl) (Nat.le_of_ble_eq_true rfl) dX3_balance_44
        exact Or.inr (Or.inr (Or.inl ⟨c5_1, c21_3, hq4, rfl, rfl⟩))
      · have hl : lv_has ls 3 [(2, .ref q4), (0, .ref h0), (1, .int i)] := by rw [hq4] at hl; exact hl
        refine lv_aload_n hx hb dX3_balance_45 rfl (lv_at hl 0 rfl) ?_
        refine fw_get X gC_ok hF ((hpl c21_3) q4 hq4) rfl 1 (by decide) wm_245 rfl dX3_balance_46 ?_
        refine gx_ifne (tgt := 57) hx hb dX3_balance_49 (by decide) (fun c49_6 => ?_) (fun c49_6 => ?_)
        · refine lv_aload_n hx hb dX3_balance_57 rfl (lv_at hl 0 rfl) ?_
          refine lv_iconst (v := 0) hx hb dX3_balance_58 (by decide) ?_
          refine fw_put X gC_ok hF hS ((hpl c21_3) q4 hq4) rfl 2 (by decide) wm_247 rfl (tf := .int) (by decide +kernel) rfl rfl (Nat.le_of_ble_eq_true rfl) dX3_balance_59 (fun H locs hF hS => ?_)
          have hF : fw_P D cls10 A (va_up w q4 (some (.inr (7, [.int ((W9 q4).1), .int (bz (W9 q4).2.1), .int 0])))) H := hF
          refine lv_aload_n hx hb dX3_balance_62 rfl (lv_at hl 0 rfl) ?_
          refine fw_callV (As := []) (rest := []) X bs_all nw_all mf_X7_label (c_X7_label l D cs _ _ q4 ((W9 q4).1) 0 ((W9 q4).2.1) (va_up_self _ _ _)) wm_334 wm_335 wm_336 hF hS rfl (va_up_self _ _ _) rfl rfl ((⟨⟨Nat.le_of_ble_eq_true rfl, Nat.le_of_ble_eq_true rfl⟩, Nat.le_of_ble_eq_true rfl, Nat.le_of_ble_eq_true rfl⟩)) rfl hl.1 rfl (Nat.le_of_ble_eq_true rfl) dX3_balance_63 (fun v u7 H locs hp hF hS hz1 hk1 hd1 => ?_)
          obtain ⟨rfl, hw1⟩ := hp
          rw [hw1] at hF
          refine W.eq (g2 := F0 m 66 ls [.int (whL ((W9 q4).1, (W9 q4).2.1, 0))]) rfl ?_
          refine lv_i2l hx hb dX3_balance_66 rfl ?_
          refine fw_lret X hF hS ?_ (Nat.le_of_ble_eq_true rfl) (Nat.le_of_ble_eq_true rfl) dX3_balance_67
          refine Or.inr (Or.inr (Or.inr (Or.inr ⟨c5_1, c21_3, q4, hq4, c49_6, ?_, rfl⟩)))
          simp [whL, c49_6]
        · refine lv_iconst (v := 5) hx hb dX3_balance_52 (by decide) ?_
          refine fw_callSN (As := [.int 5]) (rest := []) X bs_all nw_all mf_X8_failure (c_X8_failure l D cs _ _ 5) nm_292 wm_233 hF hS rfl ((⟨⟨Nat.le_of_ble_eq_true rfl, Nat.le_of_ble_eq_true rfl⟩, Nat.le_of_ble_eq_true rfl, Nat.le_of_ble_eq_true rfl⟩)) rfl hl.1 rfl (Nat.le_of_ble_eq_true rfl) dX3_balance_53 (fun v u8 H locs hp hF hS hz1 hk1 hd1 => ?_)
          obtain ⟨rfl, hw1⟩ := hp
          rw [hw1] at hF
          refine W.eq (g2 := F0 m 56 ls [.long (fl 5)]) rfl ?_
          refine fw_lret X hF hS ?_ (Nat.le_of_ble_eq_true rfl) (Nat.le_of_ble_eq_true rfl) dX3_balance_56
          exact Or.inr (Or.inr (Or.inr (Or.inl ⟨c5_1, c21_3, q4, hq4, c49_6, rfl, rfl⟩)))
    · refine lv_iconst (v := 3) hx hb dX3_balance_24 (by decide) ?_
      refine fw_callSN (As := [.int 3]) (rest := []) X bs_all nw_all mf_X8_failure (c_X8_failure l D cs _ _ 3) nm_292 wm_233 hF hS rfl ((⟨⟨Nat.le_of_ble_eq_true rfl, Nat.le_of_ble_eq_true rfl⟩, Nat.le_of_ble_eq_true rfl, Nat.le_of_ble_eq_true rfl⟩)) rfl hl.1 rfl (Nat.le_of_ble_eq_true rfl) dX3_balance_25 (fun v u9 H locs hp hF hS hz1 hk1 hd1 => ?_)
      obtain ⟨rfl, hw1⟩ := hp
      rw [hw1] at hF
      refine W.eq (g2 := F0 m 28 ls [.long (fl 3)]) rfl ?_
      refine fw_lret X hF hS ?_ (Nat.le_of_ble_eq_true rfl) (Nat.le_of_ble_eq_true rfl) dX3_balance_28
      exact Or.inr (Or.inl ⟨c5_1, c21_3, rfl, rfl⟩)
  · refine lv_iconst (v := 1) hx hb dX3_balance_8 (by decide) ?_
    refine fw_callSN (As := [.int 1]) (rest := []) X bs_all nw_all mf_X8_failure (c_X8_failure l D cs _ _ 1) nm_292 wm_233 hF hS rfl ((⟨⟨Nat.le_of_ble_eq_true rfl, Nat.le_of_ble_eq_true rfl⟩, Nat.le_of_ble_eq_true rfl, Nat.le_of_ble_eq_true rfl⟩)) rfl hl.1 rfl (Nat.le_of_ble_eq_true rfl) dX3_balance_9 (fun v u10 H locs hp hF hS hz1 hk1 hd1 => ?_)
    obtain ⟨rfl, hw1⟩ := hp
    rw [hw1] at hF
    refine W.eq (g2 := F0 m 12 ls [.long (fl 1)]) rfl ?_
    refine fw_lret X hF hS ?_ (Nat.le_of_ble_eq_true rfl) (Nat.le_of_ble_eq_true rfl) dX3_balance_12
    exact Or.inl ⟨c5_1, rfl, rfl⟩
set_option maxHeartbeats 4000000 in
set_option maxRecDepth 100000 in
theorem c_X3_wheelAt (l : Launch) (D : va_G) (cs : Nat → ClassId) (w : fW) (sz : Nat) (h0 h1 : Nat) (n : Int32) (di : Bool) (f : Nat → Option Nat) (h : w h0 = some (.inr (3, [.ref h1, .int n, .int (bz di)]))) (g : w h1 = some (.inl (cs 7, 12, .inr (.inr (.inr (.inr f)))))) (i : Int32) (hn : n ≤ 12) : gM l bs_B nw_B D cls10 (tyl cs) yX3_wheelAt cX3_wheelAt 2 (some (.object "CycleShop$Wheel")) 1 21 0 0 w sz [.ref h0, .int i] (fun v w' => v = some (va_rf (if wi i n = true then f (ix i) else none)) ∧ w' = w) := by
  refine gM.of (by decide +kernel) (Nat.le_of_ble_eq_true rfl) (fun p e s m below meth c A ls X hsz hnm hF hS hl => ?_)
  have hx := X.1
  have hb := X.2.1
  have hl : lv_has ls 2 [(0, .ref h0), (1, .int i)] := hl
  have h : w h0 = some (.inr (3, [.ref h1, .int n, .int (bz di)])) := h
  have g : w h1 = some (.inl (cs 7, 12, .inr (.inr (.inr (.inr f))))) := g
  refine lv_iload_n hx hb dX3_wheelAt_0 rfl (lv_at hl 1 rfl) ?_
  refine lv_aload_n hx hb dX3_wheelAt_1 rfl (lv_at hl 0 rfl) ?_
  refine fw_get X gC_ok hF h rfl 1 (by decide) wm_135 rfl dX3_wheelAt_2 ?_
  refine fw_callSN (As := [.int i, .int n]) (rest := []) X bs_all nw_all mf_X8_isWithin (c_X8_isWithin l D cs _ _ i n) nm_329 wm_209 hF hS rfl ((⟨⟨Nat.le_of_ble_eq_true rfl, Nat.le_of_ble_eq_true rfl⟩, Nat.le_of_ble_eq_true rfl, Nat.le_of_ble_eq_true rfl⟩)) rfl hl.1 rfl (Nat.le_of_ble_eq_true rfl) dX3_wheelAt_5 (fun v u1 H locs hp hF hS hz1 hk1 hd1 => ?_)
  obtain ⟨rfl, hw1⟩ := hp
  rw [hw1] at hF
  refine W.eq (g2 := F0 m 8 ls [.int (bz (wi i n))]) rfl ?_
  refine gx_ifeq (tgt := 20) hx hb dX3_wheelAt_8 (by decide) (fun c8_2 => ?_) (fun c8_2 => ?_)
  · refine lv_null hx hb dX3_wheelAt_20 ?_
    refine fw_aret (o := none) X hF hS ?_ (Nat.le_of_ble_eq_true rfl) (Nat.le_of_ble_eq_true rfl) dX3_wheelAt_21
    exact ⟨by simp [c8_2, va_rf], rfl⟩
  · refine lv_aload_n hx hb dX3_wheelAt_11 rfl (lv_at hl 0 rfl) ?_
    refine fw_get X gC_ok hF h rfl 0 (by decide) wm_134 rfl dX3_wheelAt_12 ?_
    refine lv_iload_n hx hb dX3_wheelAt_15 rfl (lv_at hl 1 rfl) ?_
    refine fw_aldq X hF g 7 rfl (wi_in (wi_le c8_2 hn) (N := 12) (by decide)) (v := f (ix i)) rfl dX3_wheelAt_16 ?_
    refine lv_goto (tgt := 21) hx hb dX3_wheelAt_17 (by decide) ?_
    refine fw_aret (o := f (ix i)) X hF hS ?_ (Nat.le_of_ble_eq_true rfl) (Nat.le_of_ble_eq_true rfl) dX3_wheelAt_21
    exact ⟨by simp [c8_2, va_rf], rfl⟩
set_option maxHeartbeats 4000000 in
set_option maxRecDepth 100000 in
theorem c_X2_init (l : Launch) (D : va_G) (cs : Nat → ClassId) (w : fW) (sz : Nat) (h0 : Nat) (h : w h0 = some (.inr (2, [.null, .int 0]))) : gM l bs_B nw_B D cls10 (tyl cs) yX2_init cX2_init 1 none 1 20 1 16 w sz [.ref h0] (fun v w' => v = none ∧ ∃ q, w q = none ∧ w' = va_up (va_up w q (some (.inl (cs 8, 16, .inr (.inr (.inr (.inr (fun _ => none)))))))) h0 (some (.inr (2, [.ref q, .int 0])))) := by
  refine gM.of (by decide +kernel) (Nat.le_of_ble_eq_true rfl) (fun p e s m below meth c A ls X hsz hnm hF hS hl => ?_)
  have hx := X.1
  have hb := X.2.1
  have hl : lv_has ls 1 [(0, .ref h0)] := hl
  have h : w h0 = some (.inr (2, [.null, .int 0])) := h
  refine lv_aload_n hx hb dX2_init_0 rfl (lv_at hl 0 rfl) ?_
  refine W.objInit hx hb X.2.2.2.1 (X.2.2.2.2.1 _ wm_165) (X.2.2.2.2.1 _ wm_42) (X.2.2.2.2.1 _ wm_43) rfl (by rw [X.2.2.1]; exact hl.1) rfl dX2_init_1 (Nat.le_of_ble_eq_true rfl) (Nat.le_of_ble_eq_true rfl) ?_
  refine W.eq (g2 := F0 m 4 ls []) rfl ?_
  refine lv_aload_n hx hb dX2_init_4 rfl (lv_at hl 0 rfl) ?_
  refine lv_bipush (v := 16) hx hb dX2_init_5 (by decide) ?_
  refine fw_newq X hF hS wm_166 nm_167 8 rfl (N' := 16) (by decide) (by decide) (by decide) (Nat.le_of_ble_eq_true rfl) (Nat.le_of_ble_eq_true rfl) dX2_init_7 (fun q1 H nq1 zq1 zzq1 hF hS => ?_)
  refine fw_putF X gC_ok hF hS ((va_up_ne _ _ (gx_ne h nq1)).trans h) rfl 0 (by decide) wm_168 rfl hnm rfl (tf := .array (.object "CycleShop$Step")) (by decide +kernel) rfl rfl (Nat.le_of_ble_eq_true rfl) dX2_init_10 (fun H locs hF hS => ?_)
  have hF : fw_P D cls10 A (va_up (va_up w q1 (some (.inl (cs 8, 16, .inr (.inr (.inr (.inr (fun _ => none)))))))) h0 (some (.inr (2, [.ref q1, .int 0])))) H := hF
  refine fw_vret X hF hS ?_ (Nat.le_of_ble_eq_true rfl) (Nat.le_of_ble_eq_true rfl) dX2_init_13
  exact ⟨rfl, _, nq1, rfl⟩
set_option maxHeartbeats 4000000 in
set_option maxRecDepth 100000 in
theorem c_X2_append (l : Launch) (D : va_G) (cs : Nat → ClassId) (w : fW) (sz : Nat) (h0 h1 : Nat) (n : Int32) (f : Nat → Option Nat) (h : w h0 = some (.inr (2, [.ref h1, .int n]))) (g : w h1 = some (.inl (cs 8, 16, .inr (.inr (.inr (.inr f)))))) (t0 : Nat) (s1 s2 s3 s4 s5 : Int32) (ht : w t0 = some (.inr (6, [.int s1, .int s2, .int s3, .int s4, .int s5]))) (hn0 : 0 ≤ n) : gM l bs_B nw_B D cls10 (tyl cs) yX2_append cX2_append 2 (some .int) 0 0 0 0 w sz [.ref h0, .ref t0] (fun v w' => (16 ≤ n ∧ v = some (.int (-3)) ∧ w' = w) ∨ (n < 16 ∧ v = some (.int n) ∧ w' = va_up (va_up w h1 (some (.inl (cs 8, 16, .inr (.inr (.inr (.inr (va_up f (ix n) (some t0))))))))) h0 (some (.inr (2, [.ref h1, .int (n + 1)]))))) := by
  refine gM.of (by decide +kernel) (Nat.le_of_ble_eq_true rfl) (fun p e s m below meth c A ls X hsz hnm hF hS hl => ?_)
  have hx := X.1
  have hb := X.2.1
  have hl : lv_has ls 2 [(0, .ref h0), (1, .ref t0)] := hl
  have h : w h0 = some (.inr (2, [.ref h1, .int n])) := h
  have g : w h1 = some (.inl (cs 8, 16, .inr (.inr (.inr (.inr f))))) := g
  have ht : w t0 = some (.inr (6, [.int s1, .int s2, .int s3, .int s4, .int s5])) := ht
  refine lv_aload_n hx hb dX2_append_0 rfl (lv_at hl 0 rfl) ?_
  refine fw_get X gC_ok hF h rfl 1 (by decide) wm_169 rfl dX2_append_1 ?_
  refine lv_bipush (v := 16) hx hb dX2_append_4 (by decide) ?_
  refine lv_icmp_lt (tgt := 12) hx hb dX2_append_6 (by decide) (fun c6_1 => ?_) (fun c6_1 => ?_)
  · refine lv_aload_n hx hb dX2_append_12 rfl (lv_at hl 0 rfl) ?_
    refine fw_get X gC_ok hF h rfl 0 (by decide) wm_168 rfl dX2_append_13 ?_
    refine lv_aload_n hx hb dX2_append_16 rfl (lv_at hl 0 rfl) ?_
    refine fw_get X gC_ok hF h rfl 1 (by decide) wm_169 rfl dX2_append_17 ?_
    refine lv_aload_n hx hb dX2_append_20 rfl (lv_at hl 1 rfl) ?_
    refine fw_astq X hF hS g 8 rfl ht rfl (wi_in (wi_t hn0 c6_1) (N := 16) (by decide)) dX2_append_21 (fun H locs hF hS => ?_)
    have hF : fw_P D cls10 A (va_up w h1 (some (.inl (cs 8, 16, .inr (.inr (.inr (.inr (va_up f (ix n) (some t0))))))))) H := hF
    refine lv_aload_n hx hb dX2_append_22 rfl (lv_at hl 0 rfl) ?_
    refine lv_dup hx hb dX2_append_23 rfl ?_
    refine fw_get X gC_ok hF ((va_up_ne _ _ (gx_neA h g)).trans h) rfl 1 (by decide) wm_169 rfl dX2_append_24 ?_
    refine lv_iconst (v := 1) hx hb dX2_append_27 (by decide) ?_
    refine lv_iadd hx hb dX2_append_28 ?_
    refine fw_put X gC_ok hF hS ((va_up_ne _ _ (gx_neA h g)).trans h) rfl 1 (by decide) wm_169 rfl (tf := .int) (by decide +kernel) rfl rfl (Nat.le_of_ble_eq_true rfl) dX2_append_29 (fun H locs hF hS => ?_)
    have hF : fw_P D cls10 A (va_up (va_up w h1 (some (.inl (cs 8, 16, .inr (.inr (.inr (.inr (va_up f (ix n) (some t0))))))))) h0 (some (.inr (2, [.ref h1, .int (n + 1)])))) H := hF
    refine lv_aload_n hx hb dX2_append_32 rfl (lv_at hl 0 rfl) ?_
    refine fw_get X gC_ok hF (va_up_self _ _ _) rfl 1 (by decide) wm_169 rfl dX2_append_33 ?_
    refine lv_iconst (v := 1) hx hb dX2_append_36 (by decide) ?_
    refine lv_isub hx hb dX2_append_37 ?_
    refine fw_iret X hF hS ?_ (Nat.le_of_ble_eq_true rfl) (Nat.le_of_ble_eq_true rfl) dX2_append_38
    exact Or.inr ⟨c6_1, congrArg (fun z => some (Value.int z)) (i_as n), rfl⟩
  · refine lv_bipush (v := (-3)) hx hb dX2_append_9 (by decide) ?_
    refine fw_iret X hF hS ?_ (Nat.le_of_ble_eq_true rfl) (Nat.le_of_ble_eq_true rfl) dX2_append_11
    exact Or.inl ⟨i_nlt.mp c6_1, rfl, rfl⟩
set_option maxHeartbeats 4000000 in
set_option maxRecDepth 100000 in
theorem c_X2_empty (l : Launch) (D : va_G) (cs : Nat → ClassId) (w : fW) (sz : Nat) (h0 h1 : Nat) (n : Int32) (f : Nat → Option Nat) (h : w h0 = some (.inr (2, [.ref h1, .int n]))) (g : w h1 = some (.inl (cs 8, 16, .inr (.inr (.inr (.inr f)))))) : gM l bs_B nw_B D cls10 (tyl cs) yX2_empty cX2_empty 2 (some .int) 0 0 0 0 w sz [.ref h0] (fun v w' => v = some (.int n) ∧ w' = va_up w h0 (some (.inr (2, [.ref h1, .int 0])))) := by
  refine gM.of (by decide +kernel) (Nat.le_of_ble_eq_true rfl) (fun p e s m below meth c A ls X hsz hnm hF hS hl => ?_)
  have hx := X.1
  have hb := X.2.1
  have hl : lv_has ls 2 [(0, .ref h0)] := hl
  have h : w h0 = some (.inr (2, [.ref h1, .int n])) := h
  have g : w h1 = some (.inl (cs 8, 16, .inr (.inr (.inr (.inr f))))) := g
  refine lv_aload_n hx hb dX2_empty_0 rfl (lv_at hl 0 rfl) ?_
  refine fw_get X gC_ok hF h rfl 1 (by decide) wm_169 rfl dX2_empty_1 ?_
  refine lv_istore_n (lv' := [(1, .int n), (0, .ref h0)]) hx hb dX2_empty_4 rfl hl (by decide) rfl (fun ls hl => ?_)
  refine lv_aload_n hx hb dX2_empty_5 rfl (lv_at hl 1 rfl) ?_
  refine lv_iconst (v := 0) hx hb dX2_empty_6 (by decide) ?_
  refine fw_put X gC_ok hF hS h rfl 1 (by decide) wm_169 rfl (tf := .int) (by decide +kernel) rfl rfl (Nat.le_of_ble_eq_true rfl) dX2_empty_7 (fun H locs hF hS => ?_)
  have hF : fw_P D cls10 A (va_up w h0 (some (.inr (2, [.ref h1, .int 0])))) H := hF
  refine lv_iload_n hx hb dX2_empty_10 rfl (lv_at hl 0 rfl) ?_
  refine fw_iret X hF hS ?_ (Nat.le_of_ble_eq_true rfl) (Nat.le_of_ble_eq_true rfl) dX2_empty_11
  exact ⟨rfl, rfl⟩
set_option maxHeartbeats 4000000 in
set_option maxRecDepth 100000 in
theorem c_X2_stepAt (l : Launch) (D : va_G) (cs : Nat → ClassId) (w : fW) (sz : Nat) (h0 h1 : Nat) (n : Int32) (f : Nat → Option Nat) (h : w h0 = some (.inr (2, [.ref h1, .int n]))) (g : w h1 = some (.inl (cs 8, 16, .inr (.inr (.inr (.inr f)))))) (i : Int32) (hn : n ≤ 16) : gM l bs_B nw_B D cls10 (tyl cs) yX2_stepAt cX2_stepAt 2 (some (.object "CycleShop$Step")) 1 21 0 0 w sz [.ref h0, .int i] (fun v w' => v = some (va_rf (if wi i n = true then f (ix i) else none)) ∧ w' = w) := by
  refine gM.of (by decide +kernel) (Nat.le_of_ble_eq_true rfl) (fun p e s m below meth c A ls X hsz hnm hF hS hl => ?_)
  have hx := X.1
  have hb := X.2.1
  have hl : lv_has ls 2 [(0, .ref h0), (1, .int i)] := hl
  have h : w h0 = some (.inr (2, [.ref h1, .int n])) := h
  have g : w h1 = some (.inl (cs 8, 16, .inr (.inr (.inr (.inr f))))) := g
  refine lv_iload_n hx hb dX2_stepAt_0 rfl (lv_at hl 1 rfl) ?_
  refine lv_aload_n hx hb dX2_stepAt_1 rfl (lv_at hl 0 rfl) ?_
  refine fw_get X gC_ok hF h rfl 1 (by decide) wm_169 rfl dX2_stepAt_2 ?_
  refine fw_callSN (As := [.int i, .int n]) (rest := []) X bs_all nw_all mf_X8_isWithin (c_X8_isWithin l D cs _ _ i n) nm_405 wm_209 hF hS rfl ((⟨⟨Nat.le_of_ble_eq_true rfl, Nat.le_of_ble_eq_true rfl⟩, Nat.le_of_ble_eq_true rfl, Nat.le_of_ble_eq_true rfl⟩)) rfl hl.1 rfl (Nat.le_of_ble_eq_true rfl) dX2_stepAt_5 (fun v u1 H locs hp hF hS hz1 hk1 hd1 => ?_)
  obtain ⟨rfl, hw1⟩ := hp
  rw [hw1] at hF
  refine W.eq (g2 := F0 m 8 ls [.int (bz (wi i n))]) rfl ?_
  refine gx_ifeq (tgt := 20) hx hb dX2_stepAt_8 (by decide) (fun c8_2 => ?_) (fun c8_2 => ?_)
  · refine lv_null hx hb dX2_stepAt_20 ?_
    refine fw_aret (o := none) X hF hS ?_ (Nat.le_of_ble_eq_true rfl) (Nat.le_of_ble_eq_true rfl) dX2_stepAt_21
    exact ⟨by simp [c8_2, va_rf], rfl⟩
  · refine lv_aload_n hx hb dX2_stepAt_11 rfl (lv_at hl 0 rfl) ?_
    refine fw_get X gC_ok hF h rfl 0 (by decide) wm_168 rfl dX2_stepAt_12 ?_
    refine lv_iload_n hx hb dX2_stepAt_15 rfl (lv_at hl 1 rfl) ?_
    refine fw_aldq X hF g 8 rfl (wi_in (wi_le c8_2 hn) (N := 16) (by decide)) (v := f (ix i)) rfl dX2_stepAt_16 ?_
    refine lv_goto (tgt := 21) hx hb dX2_stepAt_17 (by decide) ?_
    refine fw_aret (o := f (ix i)) X hF hS ?_ (Nat.le_of_ble_eq_true rfl) (Nat.le_of_ble_eq_true rfl) dX2_stepAt_21
    exact ⟨by simp [c8_2, va_rf], rfl⟩
set_option maxHeartbeats 4000000 in
set_option maxRecDepth 100000 in
theorem c_X4_init (l : Launch) (D : va_G) (cs : Nat → ClassId) (w : fW) (sz : Nat) (h0 : Nat) (r1 r2 r3 r4 r5 : Int32) (r6 : Int64) (h : w h0 = some (.inr (4, [.int r1, .int r2, .int r3, .int r4, .int r5, .long r6]))) : gM l bs_B nw_B D cls10 (tyl cs) yX4_init cX4_init 1 none 1 20 0 0 w sz [.ref h0] (fun v w' => v = none ∧ w' = va_up w h0 (some (.inr (4, [.int r1, .int r2, .int r3, .int (-1), .int r5, .long r6])))) := by
  refine gM.of (by decide +kernel) (Nat.le_of_ble_eq_true rfl) (fun p e s m below meth c A ls X hsz hnm hF hS hl => ?_)
  have hx := X.1
  have hb := X.2.1
  have hl : lv_has ls 1 [(0, .ref h0)] := hl
  have h : w h0 = some (.inr (4, [.int r1, .int r2, .int r3, .int r4, .int r5, .long r6])) := h
  refine lv_aload_n hx hb dX4_init_0 rfl (lv_at hl 0 rfl) ?_
  refine W.objInit hx hb X.2.2.2.1 (X.2.2.2.2.1 _ wm_59) (X.2.2.2.2.1 _ wm_42) (X.2.2.2.2.1 _ wm_43) rfl (by rw [X.2.2.1]; exact hl.1) rfl dX4_init_1 (Nat.le_of_ble_eq_true rfl) (Nat.le_of_ble_eq_true rfl) ?_
  refine W.eq (g2 := F0 m 4 ls []) rfl ?_
  refine lv_aload_n hx hb dX4_init_4 rfl (lv_at hl 0 rfl) ?_
  refine lv_iconst (v := (-1)) hx hb dX4_init_5 (by decide) ?_
  refine fw_put X gC_ok hF hS h rfl 3 (by decide) wm_66 rfl (tf := .int) (by decide +kernel) rfl rfl (Nat.le_of_ble_eq_true rfl) dX4_init_6 (fun H locs hF hS => ?_)
  have hF : fw_P D cls10 A (va_up w h0 (some (.inr (4, [.int r1, .int r2, .int r3, .int (-1), .int r5, .long r6])))) H := hF
  refine fw_vret X hF hS ?_ (Nat.le_of_ble_eq_true rfl) (Nat.le_of_ble_eq_true rfl) dX4_init_9
  exact ⟨rfl, rfl⟩
set_option maxHeartbeats 4000000 in
set_option maxRecDepth 100000 in
theorem c_X4_restart (l : Launch) (D : va_G) (cs : Nat → ClassId) (w : fW) (sz : Nat) (h0 : Nat) (r1 r2 r3 r4 r5 : Int32) (r6 : Int64) (h : w h0 = some (.inr (4, [.int r1, .int r2, .int r3, .int r4, .int r5, .long r6]))) : gM l bs_B nw_B D cls10 (tyl cs) yX4_restart cX4_restart 1 none 0 0 0 0 w sz [.ref h0] (fun v w' => v = none ∧ w' = va_up w h0 (some (.inr (4, [.int 0, .int 0, .int 0, .int (-1), .int 0, .long 0])))) := by
  refine gM.of (by decide +kernel) (Nat.le_of_ble_eq_true rfl) (fun p e s m below meth c A ls X hsz hnm hF hS hl => ?_)
  have hx := X.1
  have hb := X.2.1
  have hl : lv_has ls 1 [(0, .ref h0)] := hl
  have h : w h0 = some (.inr (4, [.int r1, .int r2, .int r3, .int r4, .int r5, .long r6])) := h
  refine lv_aload_n hx hb dX4_restart_0 rfl (lv_at hl 0 rfl) ?_
  refine lv_iconst (v := 0) hx hb dX4_restart_1 (by decide) ?_
  refine fw_put X gC_ok hF hS h rfl 0 (by decide) wm_60 rfl (tf := .int) (by decide +kernel) rfl rfl (Nat.le_of_ble_eq_true rfl) dX4_restart_2 (fun H locs hF hS => ?_)
  have hF : fw_P D cls10 A (va_up w h0 (some (.inr (4, [.int 0, .int r2, .int r3, .int r4, .int r5, .long r6])))) H := hF
  refine lv_aload_n hx hb dX4_restart_5 rfl (lv_at hl 0 rfl) ?_
  refine lv_iconst (v := 0) hx hb dX4_restart_6 (by decide) ?_
  refine fw_put X gC_ok hF hS (va_up_self _ _ _) rfl 1 (by decide) wm_62 rfl (tf := .int) (by decide +kernel) rfl rfl (Nat.le_of_ble_eq_true rfl) dX4_restart_7 (fun H locs hF hS => ?_)
  rw [bx_uu] at hF
  have hF : fw_P D cls10 A (va_up w h0 (some (.inr (4, [.int 0, .int 0, .int r3, .int r4, .int r5, .long r6])))) H := hF
  refine lv_aload_n hx hb dX4_restart_10 rfl (lv_at hl 0 rfl) ?_
  refine lv_iconst (v := 0) hx hb dX4_restart_11 (by decide) ?_
  refine fw_put X gC_ok hF hS (va_up_self _ _ _) rfl 2 (by decide) wm_64 rfl (tf := .int) (by decide +kernel) rfl rfl (Nat.le_of_ble_eq_true rfl) dX4_restart_12 (fun H locs hF hS => ?_)
  rw [bx_uu] at hF
  have hF : fw_P D cls10 A (va_up w h0 (some (.inr (4, [.int 0, .int 0, .int 0, .int r4, .int r5, .long r6])))) H := hF
  refine lv_aload_n hx hb dX4_restart_15 rfl (lv_at hl 0 rfl) ?_
  refine lv_iconst (v := (-1)) hx hb dX4_restart_16 (by decide) ?_
  refine fw_put X gC_ok hF hS (va_up_self _ _ _) rfl 3 (by decide) wm_66 rfl (tf := .int) (by decide +kernel) rfl rfl (Nat.le_of_ble_eq_true rfl) dX4_restart_17 (fun H locs hF hS => ?_)
  rw [bx_uu] at hF
  have hF : fw_P D cls10 A (va_up w h0 (some (.inr (4, [.int 0, .int 0, .int 0, .int (-1), .int r5, .long r6])))) H := hF
  refine lv_aload_n hx hb dX4_restart_20 rfl (lv_at hl 0 rfl) ?_
  refine lv_iconst (v := 0) hx hb dX4_restart_21 (by decide) ?_
  refine fw_put X gC_ok hF hS (va_up_self _ _ _) rfl 4 (by decide) wm_68 rfl (tf := .int) (by decide +kernel) rfl rfl (Nat.le_of_ble_eq_true rfl) dX4_restart_22 (fun H locs hF hS => ?_)
  rw [bx_uu] at hF
  have hF : fw_P D cls10 A (va_up w h0 (some (.inr (4, [.int 0, .int 0, .int 0, .int (-1), .int 0, .long r6])))) H := hF
  refine lv_aload_n hx hb dX4_restart_25 rfl (lv_at hl 0 rfl) ?_
  refine lv_lconst (v := 0) hx hb dX4_restart_26 (by decide) ?_
  refine fw_put X gC_ok hF hS (va_up_self _ _ _) rfl 5 (by decide) wm_70 rfl (tf := .long) (by decide +kernel) rfl rfl (Nat.le_of_ble_eq_true rfl) dX4_restart_27 (fun H locs hF hS => ?_)
  rw [bx_uu] at hF
  have hF : fw_P D cls10 A (va_up w h0 (some (.inr (4, [.int 0, .int 0, .int 0, .int (-1), .int 0, .long 0])))) H := hF
  refine fw_vret X hF hS ?_ (Nat.le_of_ble_eq_true rfl) (Nat.le_of_ble_eq_true rfl) dX4_restart_30
  exact ⟨rfl, rfl⟩
set_option maxHeartbeats 4000000 in
set_option maxRecDepth 100000 in
theorem c_X4_addAnswer (l : Launch) (D : va_G) (cs : Nat → ClassId) (w : fW) (sz : Nat) (h0 : Nat) (r1 r2 r3 r4 r5 : Int32) (r6 : Int64) (h : w h0 = some (.inr (4, [.int r1, .int r2, .int r3, .int r4, .int r5, .long r6]))) (o : Int64) : gM l bs_B nw_B D cls10 (tyl cs) yX4_addAnswer cX4_addAnswer 3 none 0 0 0 0 w sz [.ref h0, .long o] (fun v w' => v = none ∧ w' = va_up w h0 (some (.inr (4, [.int (r1 + 1), .int r2, .int r3, .int r4, .int r5, .long (r6 + o)])))) := by
  refine gM.of (by decide +kernel) (Nat.le_of_ble_eq_true rfl) (fun p e s m below meth c A ls X hsz hnm hF hS hl => ?_)
  have hx := X.1
  have hb := X.2.1
  have hl : lv_has ls 3 [(0, .ref h0), (1, .long o)] := hl
  have h : w h0 = some (.inr (4, [.int r1, .int r2, .int r3, .int r4, .int r5, .long r6])) := h
  refine lv_aload_n hx hb dX4_addAnswer_0 rfl (lv_at hl 0 rfl) ?_
  refine lv_dup hx hb dX4_addAnswer_1 rfl ?_
  refine fw_get X gC_ok hF h rfl 0 (by decide) wm_60 rfl dX4_addAnswer_2 ?_
  refine lv_iconst (v := 1) hx hb dX4_addAnswer_5 (by decide) ?_
  refine lv_iadd hx hb dX4_addAnswer_6 ?_
  refine fw_put X gC_ok hF hS h rfl 0 (by decide) wm_60 rfl (tf := .int) (by decide +kernel) rfl rfl (Nat.le_of_ble_eq_true rfl) dX4_addAnswer_7 (fun H locs hF hS => ?_)
  have hF : fw_P D cls10 A (va_up w h0 (some (.inr (4, [.int (r1 + 1), .int r2, .int r3, .int r4, .int r5, .long r6])))) H := hF
  refine lv_aload_n hx hb dX4_addAnswer_10 rfl (lv_at hl 0 rfl) ?_
  refine lv_dup hx hb dX4_addAnswer_11 rfl ?_
  refine fw_get X gC_ok hF (va_up_self _ _ _) rfl 5 (by decide) wm_70 rfl dX4_addAnswer_12 ?_
  refine lv_lload_n hx hb dX4_addAnswer_15 rfl (lv_at hl 1 rfl) ?_
  refine lv_ladd hx hb dX4_addAnswer_16 ?_
  refine fw_put X gC_ok hF hS (va_up_self _ _ _) rfl 5 (by decide) wm_70 rfl (tf := .long) (by decide +kernel) rfl rfl (Nat.le_of_ble_eq_true rfl) dX4_addAnswer_17 (fun H locs hF hS => ?_)
  rw [bx_uu] at hF
  have hF : fw_P D cls10 A (va_up w h0 (some (.inr (4, [.int (r1 + 1), .int r2, .int r3, .int r4, .int r5, .long (r6 + o)])))) H := hF
  refine fw_vret X hF hS ?_ (Nat.le_of_ble_eq_true rfl) (Nat.le_of_ble_eq_true rfl) dX4_addAnswer_20
  exact ⟨rfl, rfl⟩
set_option maxHeartbeats 4000000 in
set_option maxRecDepth 100000 in
theorem c_X4_addFailure (l : Launch) (D : va_G) (cs : Nat → ClassId) (w : fW) (sz : Nat) (h0 : Nat) (r1 r2 r3 r4 r5 : Int32) (r6 : Int64) (h : w h0 = some (.inr (4, [.int r1, .int r2, .int r3, .int r4, .int r5, .long r6]))) (a b : Int32) : gM l bs_B nw_B D cls10 (tyl cs) yX4_addFailure cX4_addFailure 3 none 0 0 0 0 w sz [.ref h0, .int a, .int b] (fun v w' => v = none ∧ w' = va_up w h0 (some (.inr (4, [.int r1, .int (r2 + 1), .int a, .int b, .int r5, .long r6])))) := by
  refine gM.of (by decide +kernel) (Nat.le_of_ble_eq_true rfl) (fun p e s m below meth c A ls X hsz hnm hF hS hl => ?_)
  have hx := X.1
  have hb := X.2.1
  have hl : lv_has ls 3 [(0, .ref h0), (1, .int a), (2, .int b)] := hl
  have h : w h0 = some (.inr (4, [.int r1, .int r2, .int r3, .int r4, .int r5, .long r6])) := h
  refine lv_aload_n hx hb dX4_addFailure_0 rfl (lv_at hl 0 rfl) ?_
  refine lv_dup hx hb dX4_addFailure_1 rfl ?_
  refine fw_get X gC_ok hF h rfl 1 (by decide) wm_62 rfl dX4_addFailure_2 ?_
  refine lv_iconst (v := 1) hx hb dX4_addFailure_5 (by decide) ?_
  refine lv_iadd hx hb dX4_addFailure_6 ?_
  refine fw_put X gC_ok hF hS h rfl 1 (by decide) wm_62 rfl (tf := .int) (by decide +kernel) rfl rfl (Nat.le_of_ble_eq_true rfl) dX4_addFailure_7 (fun H locs hF hS => ?_)
  have hF : fw_P D cls10 A (va_up w h0 (some (.inr (4, [.int r1, .int (r2 + 1), .int r3, .int r4, .int r5, .long r6])))) H := hF
  refine lv_aload_n hx hb dX4_addFailure_10 rfl (lv_at hl 0 rfl) ?_
  refine lv_iload_n hx hb dX4_addFailure_11 rfl (lv_at hl 1 rfl) ?_
  refine fw_put X gC_ok hF hS (va_up_self _ _ _) rfl 2 (by decide) wm_64 rfl (tf := .int) (by decide +kernel) rfl rfl (Nat.le_of_ble_eq_true rfl) dX4_addFailure_12 (fun H locs hF hS => ?_)
  rw [bx_uu] at hF
  have hF : fw_P D cls10 A (va_up w h0 (some (.inr (4, [.int r1, .int (r2 + 1), .int a, .int r4, .int r5, .long r6])))) H := hF
  refine lv_aload_n hx hb dX4_addFailure_15 rfl (lv_at hl 0 rfl) ?_
  refine lv_iload_n hx hb dX4_addFailure_16 rfl (lv_at hl 2 rfl) ?_
  refine fw_put X gC_ok hF hS (va_up_self _ _ _) rfl 3 (by decide) wm_66 rfl (tf := .int) (by decide +kernel) rfl rfl (Nat.le_of_ble_eq_true rfl) dX4_addFailure_17 (fun H locs hF hS => ?_)
  rw [bx_uu] at hF
  have hF : fw_P D cls10 A (va_up w h0 (some (.inr (4, [.int r1, .int (r2 + 1), .int a, .int b, .int r5, .long r6])))) H := hF
  refine fw_vret X hF hS ?_ (Nat.le_of_ble_eq_true rfl) (Nat.le_of_ble_eq_true rfl) dX4_addFailure_20
  exact ⟨rfl, rfl⟩
set_option maxHeartbeats 4000000 in
set_option maxRecDepth 100000 in
theorem c_X6_init (l : Launch) (D : va_G) (cs : Nat → ClassId) (w : fW) (sz : Nat) (h0 : Nat) (s1 s2 s3 s4 s5 : Int32) (h : w h0 = some (.inr (6, [.int 0, .int 0, .int 0, .int 0, .int 0]))) : gM l bs_B nw_B D cls10 (tyl cs) yX6_init cX6_init 6 none 1 20 0 0 w sz [.ref h0, .int s1, .int s2, .int s3, .int s4, .int s5] (fun v w' => v = none ∧ w' = va_up w h0 (some (.inr (6, [.int s1, .int s2, .int s3, .int s4, .int s5])))) := by
  refine gM.of (by decide +kernel) (Nat.le_of_ble_eq_true rfl) (fun p e s m below meth c A ls X hsz hnm hF hS hl => ?_)
  have hx := X.1
  have hb := X.2.1
  have hl : lv_has ls 6 [(0, .ref h0), (1, .int s1), (2, .int s2), (3, .int s3), (4, .int s4), (5, .int s5)] := hl
  have h : w h0 = some (.inr (6, [.int 0, .int 0, .int 0, .int 0, .int 0])) := h
  refine lv_aload_n hx hb dX6_init_0 rfl (lv_at hl 0 rfl) ?_
  refine W.objInit hx hb X.2.2.2.1 (X.2.2.2.2.1 _ wm_355) (X.2.2.2.2.1 _ wm_42) (X.2.2.2.2.1 _ wm_43) rfl (by rw [X.2.2.1]; exact hl.1) rfl dX6_init_1 (Nat.le_of_ble_eq_true rfl) (Nat.le_of_ble_eq_true rfl) ?_
  refine W.eq (g2 := F0 m 4 ls []) rfl ?_
  refine lv_aload_n hx hb dX6_init_4 rfl (lv_at hl 0 rfl) ?_
  refine lv_iload_n hx hb dX6_init_5 rfl (lv_at hl 1 rfl) ?_
  refine fw_putF X gC_ok hF hS h rfl 0 (by decide) wm_356 rfl hnm rfl (tf := .int) (by decide +kernel) rfl rfl (Nat.le_of_ble_eq_true rfl) dX6_init_6 (fun H locs hF hS => ?_)
  have hF : fw_P D cls10 A (va_up w h0 (some (.inr (6, [.int s1, .int 0, .int 0, .int 0, .int 0])))) H := hF
  refine lv_aload_n hx hb dX6_init_9 rfl (lv_at hl 0 rfl) ?_
  refine lv_iload_n hx hb dX6_init_10 rfl (lv_at hl 2 rfl) ?_
  refine fw_putF X gC_ok hF hS (va_up_self _ _ _) rfl 1 (by decide) wm_358 rfl hnm rfl (tf := .int) (by decide +kernel) rfl rfl (Nat.le_of_ble_eq_true rfl) dX6_init_11 (fun H locs hF hS => ?_)
  rw [bx_uu] at hF
  have hF : fw_P D cls10 A (va_up w h0 (some (.inr (6, [.int s1, .int s2, .int 0, .int 0, .int 0])))) H := hF
  refine lv_aload_n hx hb dX6_init_14 rfl (lv_at hl 0 rfl) ?_
  refine lv_iload_n hx hb dX6_init_15 rfl (lv_at hl 3 rfl) ?_
  refine fw_putF X gC_ok hF hS (va_up_self _ _ _) rfl 2 (by decide) wm_360 rfl hnm rfl (tf := .int) (by decide +kernel) rfl rfl (Nat.le_of_ble_eq_true rfl) dX6_init_16 (fun H locs hF hS => ?_)
  rw [bx_uu] at hF
  have hF : fw_P D cls10 A (va_up w h0 (some (.inr (6, [.int s1, .int s2, .int s3, .int 0, .int 0])))) H := hF
  refine lv_aload_n hx hb dX6_init_19 rfl (lv_at hl 0 rfl) ?_
  refine lv_iload hx hb dX6_init_20 (lv_at hl 4 rfl) ?_
  refine fw_putF X gC_ok hF hS (va_up_self _ _ _) rfl 3 (by decide) wm_362 rfl hnm rfl (tf := .int) (by decide +kernel) rfl rfl (Nat.le_of_ble_eq_true rfl) dX6_init_22 (fun H locs hF hS => ?_)
  rw [bx_uu] at hF
  have hF : fw_P D cls10 A (va_up w h0 (some (.inr (6, [.int s1, .int s2, .int s3, .int s4, .int 0])))) H := hF
  refine lv_aload_n hx hb dX6_init_25 rfl (lv_at hl 0 rfl) ?_
  refine lv_iload hx hb dX6_init_26 (lv_at hl 5 rfl) ?_
  refine fw_putF X gC_ok hF hS (va_up_self _ _ _) rfl 4 (by decide) wm_364 rfl hnm rfl (tf := .int) (by decide +kernel) rfl rfl (Nat.le_of_ble_eq_true rfl) dX6_init_28 (fun H locs hF hS => ?_)
  rw [bx_uu] at hF
  have hF : fw_P D cls10 A (va_up w h0 (some (.inr (6, [.int s1, .int s2, .int s3, .int s4, .int s5])))) H := hF
  refine fw_vret X hF hS ?_ (Nat.le_of_ble_eq_true rfl) (Nat.le_of_ble_eq_true rfl) dX6_init_31
  exact ⟨rfl, rfl⟩
