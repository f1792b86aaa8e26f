set_option maxHeartbeats 4000000 in
set_option maxRecDepth 100000 in
theorem c_J7_fill_53178 (l : Launch) (D : va_G) (cs : Nat → ClassId) (w : fW) (sz : Nat) (h1 N : Nat) (f : Nat → Int32) (x : Int32) (hN : N < 2 ^ 31) (h : w h1 = some (.inl (cs 0, N, .inl f))) : gM l bs_B nw_B D cls10 (tyl cs) yJ7_fill_53178 cJ7_fill_53178 4 none 0 0 0 0 w sz [.ref h1, .int x] (fun v w' => v = none ∧ w' = va_up w h1 (some (.inl (cs 0, N, .inl (fun _ => x))))) := by
  refine gM.of (by decide +kernel) (Nat.le_of_ble_eq_true rfl) (fun p e s m below meth c A ls X hsz hnm hF hS hl => ?_)
  have hx := X.1
  have hb := X.2.1
  have loop : ∀ (n i : Nat), i + n = N → ∀ (H : Heap) (locs : List Loc) (ls : Array Slot), fw_P D cls10 A (va_up w h1 (some (.inl (cs 0, N, .inl (fun j => if j < i then x else f j))))) H → va_S A s.heap H locs → lv_has ls 4 [(0, .ref h1), (1, .int x), (2, .int (nI i)), (3, .int (nI N))] → W p l e ({ frames := 0, cells := 0, slots := 0, locals := 0 } : Room) s m ([.ref h1, .int x] : List Value).toArray below meth c H locs 0 0 (MQ below (gQ D cls10 A (fun v w' => v = none ∧ w' = va_up w h1 (some (.inl (cs 0, N, .inl (fun _ => x)))))) ([.ref h1, .int x] : List Value).toArray s 0 0 A) (F0 m 5 ls []) := by
    intro n
    induction n with
    | zero =>
      intro i hi H locs ls hF hS hl
      refine lv_iload_n hx hb dJ7_fill_53178_5 rfl (lv_at hl 2 rfl) ?_
      refine lv_iload_n hx hb dJ7_fill_53178_6 rfl (lv_at hl 3 rfl) ?_
      refine lv_icmp_ge (tgt := 20) hx hb dJ7_fill_53178_7 (by decide) (fun c7_1 => ?_) (fun c7_1 => ?_)
      · have hF := hF.arr (g := fun _ => x) (fun j hj => if_pos (by omega))
        refine fw_vret X hF hS ?_ (Nat.le_of_ble_eq_true rfl) (Nat.le_of_ble_eq_true rfl) dJ7_fill_53178_20
        exact ⟨rfl, rfl⟩
      · exact absurd (nI_le (by omega) (by omega)) c7_1
    | succ n ih =>
      intro i hi H locs ls hF hS hl
      refine lv_iload_n hx hb dJ7_fill_53178_5 rfl (lv_at hl 2 rfl) ?_
      refine lv_iload_n hx hb dJ7_fill_53178_6 rfl (lv_at hl 3 rfl) ?_
      refine lv_icmp_ge (tgt := 20) hx hb dJ7_fill_53178_7 (by decide) (fun c7_1 => ?_) (fun c7_1 => ?_)
      · exact absurd c7_1 (nI_ge (by omega) hN)
      · refine lv_aload_n hx hb dJ7_fill_53178_10 rfl (lv_at hl 0 rfl) ?_
        refine lv_iload_n hx hb dJ7_fill_53178_11 rfl (lv_at hl 2 rfl) ?_
        refine lv_iload_n hx hb dJ7_fill_53178_12 rfl (lv_at hl 1 rfl) ?_
        refine fw_iast X hF hS (va_up_self _ _ _) 0 rfl (vp_in_nI (by omega) hN) dJ7_fill_53178_13 (fun H locs hF hS => ?_)
        rw [show (nI i).toNatClampNeg = i from nI_clamp (by omega)] at hF
        rw [bx_uu, fill_step] at hF
        refine lv_iinc (v := nI (i + 1)) (lv' := [(2, .int (nI (i + 1))), (0, .ref h1), (1, .int x), (3, .int (nI N))]) hx hb dJ7_fill_53178_14 hl (k := 2) rfl (nI_1 i) (by decide) rfl (fun ls hl => ?_)
        refine lv_goto (tgt := 5) hx hb dJ7_fill_53178_17 (by decide) ?_
        exact ih (i + 1) (by omega) H locs ls hF hS (lv_sub hl [1, 2, 0, 3] rfl)
  have hl : lv_has ls 4 [(0, .ref h1), (1, .int x)] := hl
  refine lv_iconst (v := 0) hx hb dJ7_fill_53178_0 (by decide) ?_
  refine lv_istore_n (lv' := [(2, .int 0), (0, .ref h1), (1, .int x)]) hx hb dJ7_fill_53178_1 rfl hl (by decide) rfl (fun ls hl => ?_)
  refine lv_aload_n hx hb dJ7_fill_53178_2 rfl (lv_at hl 1 rfl) ?_
  refine fw_alen X hF h 0 rfl (v := nI N) rfl dJ7_fill_53178_3 ?_
  refine lv_istore_n (lv' := [(3, .int (nI N)), (2, .int 0), (0, .ref h1), (1, .int x)]) hx hb dJ7_fill_53178_4 rfl hl (by decide) rfl (fun ls hl => ?_)
  refine loop N 0 (by omega) _ _ ls ?_ hS (lv_sub hl [2, 3, 1, 0] rfl)
  rw [gx_upid (by simpa using h)]
  exact hF
set_option maxHeartbeats 4000000 in
set_option maxRecDepth 100000 in
theorem c_X0_init (l : Launch) (D : va_G) (cs : Nat → ClassId) (w : fW) (sz : Nat) (h0 : Nat) (h : w h0 = some (.inr (0, [.null, .int 0]))) : gM l bs_B nw_B D cls10 (tyl cs) yX0_init cX0_init 1 none 1 20 1 12 w sz [.ref h0] (fun v w' => v = none ∧ ∃ q, w q = none ∧ w' = va_up (va_up w q (some (.inl (cs 0, 12, .inl (fun _ => 0))))) h0 (some (.inr (0, [.ref q, .int (-1)])))) := by
  refine gM.of (by decide +kernel) (Nat.le_of_ble_eq_true rfl) (fun p e s m below meth c A ls X hsz hnm hF hS hl => ?_)
  have hx := X.1
  have hb := X.2.1
  have hl : lv_has ls 1 [(0, .ref h0)] := hl
  have h : w h0 = some (.inr (0, [.null, .int 0])) := h
  refine lv_aload_n hx hb dX0_init_0 rfl (lv_at hl 0 rfl) ?_
  refine W.objInit hx hb X.2.2.2.1 (X.2.2.2.2.1 _ wm_118) (X.2.2.2.2.1 _ wm_42) (X.2.2.2.2.1 _ wm_43) rfl (by rw [X.2.2.1]; exact hl.1) rfl dX0_init_1 (Nat.le_of_ble_eq_true rfl) (Nat.le_of_ble_eq_true rfl) ?_
  refine W.eq (g2 := F0 m 4 ls []) rfl ?_
  refine lv_aload_n hx hb dX0_init_4 rfl (lv_at hl 0 rfl) ?_
  refine lv_bipush (v := 12) hx hb dX0_init_5 (by decide) ?_
  refine fw_newa X hF hS (atype := .int) wm_85 rfl (fun _ h => by cases h) 0 rfl (N' := 12) (a0 := (12, .inl (fun _ => 0))) rfl (by decide) (by decide) (by decide) (Nat.le_of_ble_eq_true rfl) (Nat.le_of_ble_eq_true rfl) dX0_init_7 (fun q1 H nq1 zq1 zzq1 hF hS => ?_)
  refine fw_putF X gC_ok hF hS ((va_up_ne _ _ (gx_ne h nq1)).trans h) rfl 0 (by decide) wm_119 rfl hnm rfl (tf := .array .int) (by decide +kernel) rfl rfl (Nat.le_of_ble_eq_true rfl) dX0_init_9 (fun H locs hF hS => ?_)
  have hF : fw_P D cls10 A (va_up (va_up w q1 (some (.inl (cs 0, 12, .inl (fun _ => 0))))) h0 (some (.inr (0, [.ref q1, .int 0])))) H := hF
  refine lv_aload_n hx hb dX0_init_12 rfl (lv_at hl 0 rfl) ?_
  refine lv_iconst (v := (-1)) hx hb dX0_init_13 (by decide) ?_
  refine fw_put X gC_ok hF hS (va_up_self _ _ _) rfl 1 (by decide) wm_120 rfl (tf := .int) (by decide +kernel) rfl rfl (Nat.le_of_ble_eq_true rfl) dX0_init_14 (fun H locs hF hS => ?_)
  rw [bx_uu] at hF
  have hF : fw_P D cls10 A (va_up (va_up w q1 (some (.inl (cs 0, 12, .inl (fun _ => 0))))) h0 (some (.inr (0, [.ref q1, .int (-1)])))) H := hF
  refine fw_vret X hF hS ?_ (Nat.le_of_ble_eq_true rfl) (Nat.le_of_ble_eq_true rfl) dX0_init_17
  exact ⟨rfl, _, nq1, by simp only [bx_uu]⟩
set_option maxHeartbeats 4000000 in
set_option maxRecDepth 100000 in
theorem c_X0_make (l : Launch) (D : va_G) (cs : Nat → ClassId) (w : fW) (sz : Nat) (h0 h1 : Nat) (n : Int32) (f : Nat → Int32) (h : w h0 = some (.inr (0, [.ref h1, .int n]))) (g : w h1 = some (.inl (cs 0, 12, .inl f))) (b : Int32) : gM l bs_B nw_B D cls10 (tyl cs) yX0_make cX0_make 2 (some .long) 1 23 0 0 w sz [.ref h0, .int b] (fun v w' => ((b < 0 ∨ 12 < b) ∧ v = some (.long (fl 2)) ∧ w' = w) ∨ (¬ (b < 0 ∨ 12 < b) ∧ v = some (.long b.toInt64) ∧ w' = va_up (va_up w h1 (some (.inl (cs 0, 12, .inl (fun _ => 0))))) h0 (some (.inr (0, [.ref h1, .int b]))))) := by
  refine gM.of (by decide +kernel) (Nat.le_of_ble_eq_true rfl) (fun p e s m below meth c A ls X hsz hnm hF hS hl => ?_)
  have hx := X.1
  have hb := X.2.1
  have hl : lv_has ls 2 [(0, .ref h0), (1, .int b)] := hl
  have h : w h0 = some (.inr (0, [.ref h1, .int n])) := h
  have g : w h1 = some (.inl (cs 0, 12, .inl f)) := g
  refine lv_iload_n hx hb dX0_make_0 rfl (lv_at hl 1 rfl) ?_
  refine lv_if_lt (tgt := 10) hx hb dX0_make_1 (by decide) (fun c1_1 => ?_) (fun c1_1 => ?_)
  · refine lv_iconst (v := 2) hx hb dX0_make_10 (by decide) ?_
    refine fw_callSN (As := [.int 2]) (rest := []) X bs_all nw_all mf_X8_failure (c_X8_failure l D cs _ _ 2) nm_284 wm_233 hF hS rfl ((⟨⟨Nat.le_of_ble_eq_true rfl, Nat.le_of_ble_eq_true rfl⟩, Nat.le_of_ble_eq_true rfl, Nat.le_of_ble_eq_true rfl⟩)) rfl hl.1 rfl (Nat.le_of_ble_eq_true rfl) dX0_make_11 (fun v u2 H locs hp hF hS hz1 hk1 hd1 => ?_)
    obtain ⟨rfl, hw1⟩ := hp
    rw [hw1] at hF
    refine W.eq (g2 := F0 m 14 ls [.long (fl 2)]) rfl ?_
    refine fw_lret X hF hS ?_ (Nat.le_of_ble_eq_true rfl) (Nat.le_of_ble_eq_true rfl) dX0_make_14
    exact Or.inl ⟨Or.inl c1_1, rfl, rfl⟩
  · refine lv_iload_n hx hb dX0_make_4 rfl (lv_at hl 1 rfl) ?_
    refine lv_bipush (v := 12) hx hb dX0_make_5 (by decide) ?_
    refine lv_icmp_le (tgt := 15) hx hb dX0_make_7 (by decide) (fun c7_3 => ?_) (fun c7_3 => ?_)
    · refine lv_aload_n hx hb dX0_make_15 rfl (lv_at hl 0 rfl) ?_
      refine fw_get X gC_ok hF h rfl 0 (by decide) wm_119 rfl dX0_make_16 ?_
      refine lv_iconst (v := 0) hx hb dX0_make_19 (by decide) ?_
      refine fw_callS (As := [.ref h1, .int 0]) (rest := []) X bs_all nw_all mf_J7_fill_53178 (c_J7_fill_53178 l D cs _ _ h1 12 f 0 (by decide) g) wm_285 wm_286 hF hS rfl ((⟨⟨Nat.le_of_ble_eq_true rfl, Nat.le_of_ble_eq_true rfl⟩, Nat.le_of_ble_eq_true rfl, Nat.le_of_ble_eq_true rfl⟩)) rfl hl.1 rfl (Nat.le_of_ble_eq_true rfl) dX0_make_20 (fun v u4 H locs hp hF hS hz1 hk1 hd1 => ?_)
      obtain ⟨rfl, hw1⟩ := hp
      rw [hw1] at hF
      refine W.eq (g2 := F0 m 23 ls []) rfl ?_
      refine lv_aload_n hx hb dX0_make_23 rfl (lv_at hl 0 rfl) ?_
      refine lv_iload_n hx hb dX0_make_24 rfl (lv_at hl 1 rfl) ?_
      refine fw_put X gC_ok hF hS ((va_up_ne _ _ (gx_neA h g)).trans h) rfl 1 (by decide) wm_120 rfl (tf := .int) (by decide +kernel) rfl rfl (Nat.le_of_ble_eq_true rfl) dX0_make_25 (fun H locs hF hS => ?_)
      have hF : fw_P D cls10 A (va_up (va_up w h1 (some (.inl (cs 0, 12, .inl (fun _ => 0))))) h0 (some (.inr (0, [.ref h1, .int b])))) H := hF
      refine lv_iload_n hx hb dX0_make_28 rfl (lv_at hl 1 rfl) ?_
      refine lv_i2l hx hb dX0_make_29 rfl ?_
      refine fw_lret X hF hS ?_ (Nat.le_of_ble_eq_true rfl) (Nat.le_of_ble_eq_true rfl) dX0_make_30
      exact Or.inr ⟨fun q => q.elim c1_1 (fun z => i_nlt.mpr c7_3 z), rfl, rfl⟩
    · refine lv_iconst (v := 2) hx hb dX0_make_10 (by decide) ?_
      refine fw_callSN (As := [.int 2]) (rest := []) X bs_all nw_all mf_X8_failure (c_X8_failure l D cs _ _ 2) nm_284 wm_233 hF hS rfl ((⟨⟨Nat.le_of_ble_eq_true rfl, Nat.le_of_ble_eq_true rfl⟩, Nat.le_of_ble_eq_true rfl, Nat.le_of_ble_eq_true rfl⟩)) rfl hl.1 rfl (Nat.le_of_ble_eq_true rfl) dX0_make_11 (fun v u5 H locs hp hF hS hz1 hk1 hd1 => ?_)
      obtain ⟨rfl, hw1⟩ := hp
      rw [hw1] at hF
      refine W.eq (g2 := F0 m 14 ls [.long (fl 2)]) rfl ?_
      refine fw_lret X hF hS ?_ (Nat.le_of_ble_eq_true rfl) (Nat.le_of_ble_eq_true rfl) dX0_make_14
      exact Or.inl ⟨Or.inr (i_nle.mp c7_3), rfl, rfl⟩
set_option maxHeartbeats 4000000 in
set_option maxRecDepth 100000 in
theorem c_X0_put (l : Launch) (D : va_G) (cs : Nat → ClassId) (w : fW) (sz : Nat) (h0 h1 : Nat) (n : Int32) (f : Nat → Int32) (h : w h0 = some (.inr (0, [.ref h1, .int n]))) (g : w h1 = some (.inl (cs 0, 12, .inl f))) (i k : Int32) (hn : n ≤ 12) : gM l bs_B nw_B D cls10 (tyl cs) yX0_put cX0_put 4 (some .long) 1 21 0 0 w sz [.ref h0, .int i, .int k] (fun v w' => (n = -1 ∧ v = some (.long (fl 1)) ∧ w' = w) ∨ (¬ n = -1 ∧ wi i n = false ∧ v = some (.long (fl 3)) ∧ w' = w) ∨ (¬ n = -1 ∧ wi i n = true ∧ v = some (.long (f (ix i)).toInt64) ∧ w' = va_up w h1 (some (.inl (cs 0, 12, .inl (upd f (ix i) k)))))) := by
  refine gM.of (by decide +kernel) (Nat.le_of_ble_eq_true rfl) (fun p e s m below meth c A ls X hsz hnm hF hS hl => ?_)
  have hx := X.1
  have hb := X.2.1
  have hl : lv_has ls 4 [(0, .ref h0), (1, .int i), (2, .int k)] := hl
  have h : w h0 = some (.inr (0, [.ref h1, .int n])) := h
  have g : w h1 = some (.inl (cs 0, 12, .inl f)) := g
  refine lv_aload_n hx hb dX0_put_0 rfl (lv_at hl 0 rfl) ?_
  refine fw_get X gC_ok hF h rfl 1 (by decide) wm_120 rfl dX0_put_1 ?_
  refine lv_iconst (v := (-1)) hx hb dX0_put_4 (by decide) ?_
  refine lv_icmp_ne (tgt := 13) hx hb dX0_put_5 (by decide) (fun c5_1 => ?_) (fun c5_1 => ?_)
  · refine lv_iload_n hx hb dX0_put_13 rfl (lv_at hl 1 rfl) ?_
    refine lv_aload_n hx hb dX0_put_14 rfl (lv_at hl 0 rfl) ?_
    refine fw_get X gC_ok hF h rfl 1 (by decide) wm_120 rfl dX0_put_15 ?_
    refine fw_callSN (As := [.int i, .int n]) (rest := []) X bs_all nw_all mf_X8_isWithin (c_X8_isWithin l D cs _ _ i n) nm_316 wm_209 hF hS rfl ((⟨⟨Nat.le_of_ble_eq_true rfl, Nat.le_of_ble_eq_true rfl⟩, Nat.le_of_ble_eq_true rfl, Nat.le_of_ble_eq_true rfl⟩)) rfl hl.1 rfl (Nat.le_of_ble_eq_true rfl) dX0_put_18 (fun v u2 H locs hp hF hS hz1 hk1 hd1 => ?_)
    obtain ⟨rfl, hw1⟩ := hp
    rw [hw1] at hF
    refine W.eq (g2 := F0 m 21 ls [.int (bz (wi i n))]) rfl ?_
    refine gx_ifne (tgt := 29) hx hb dX0_put_21 (by decide) (fun c21_3 => ?_) (fun c21_3 => ?_)
    · refine lv_aload_n hx hb dX0_put_29 rfl (lv_at hl 0 rfl) ?_
      refine fw_get X gC_ok hF h rfl 0 (by decide) wm_119 rfl dX0_put_30 ?_
      refine lv_iload_n hx hb dX0_put_33 rfl (lv_at hl 1 rfl) ?_
      refine fw_iald X hF g 0 rfl (wi_in (wi_le c21_3 hn) (N := 12) (by decide)) (v := f (ix i)) rfl dX0_put_34 ?_
      refine lv_istore_n (lv' := [(3, .int (f (ix i))), (0, .ref h0), (1, .int i), (2, .int k)]) hx hb dX0_put_35 rfl hl (by decide) rfl (fun ls hl => ?_)
      refine lv_aload_n hx hb dX0_put_36 rfl (lv_at hl 1 rfl) ?_
      refine fw_get X gC_ok hF h rfl 0 (by decide) wm_119 rfl dX0_put_37 ?_
      refine lv_iload_n hx hb dX0_put_40 rfl (lv_at hl 2 rfl) ?_
      refine lv_iload_n hx hb dX0_put_41 rfl (lv_at hl 3 rfl) ?_
      refine fw_iast X hF hS g 0 rfl (wi_in (wi_le c21_3 hn) (N := 12) (by decide)) dX0_put_42 (fun H locs hF hS => ?_)
      have hF : fw_P D cls10 A (va_up w h1 (some (.inl (cs 0, 12, .inl (upd f (ix i) k))))) H := hF
      refine lv_iload_n hx hb dX0_put_43 rfl (lv_at hl 0 rfl) ?_
      refine lv_i2l hx hb dX0_put_44 rfl ?_
      refine fw_lret X hF hS ?_ (Nat.le_of_ble_eq_true rfl) (Nat.le_of_ble_eq_true rfl) dX0_put_45
      exact Or.inr (Or.inr ⟨c5_1, c21_3, rfl, rfl⟩)
    · refine lv_iconst (v := 3) hx hb dX0_put_24 (by decide) ?_
      refine fw_callSN (As := [.int 3]) (rest := []) X bs_all nw_all mf_X8_failure (c_X8_failure l D cs _ _ 3) nm_284 wm_233 hF hS rfl ((⟨⟨Nat.le_of_ble_eq_true rfl, Nat.le_of_ble_eq_true rfl⟩, Nat.le_of_ble_eq_true rfl, Nat.le_of_ble_eq_true rfl⟩)) rfl hl.1 rfl (Nat.le_of_ble_eq_true rfl) dX0_put_25 (fun v u4 H locs hp hF hS hz1 hk1 hd1 => ?_)
      obtain ⟨rfl, hw1⟩ := hp
      rw [hw1] at hF
      refine W.eq (g2 := F0 m 28 ls [.long (fl 3)]) rfl ?_
      refine fw_lret X hF hS ?_ (Nat.le_of_ble_eq_true rfl) (Nat.le_of_ble_eq_true rfl) dX0_put_28
      exact Or.inr (Or.inl ⟨c5_1, c21_3, rfl, rfl⟩)
  · refine lv_iconst (v := 1) hx hb dX0_put_8 (by decide) ?_
    refine fw_callSN (As := [.int 1]) (rest := []) X bs_all nw_all mf_X8_failure (c_X8_failure l D cs _ _ 1) nm_284 wm_233 hF hS rfl ((⟨⟨Nat.le_of_ble_eq_true rfl, Nat.le_of_ble_eq_true rfl⟩, Nat.le_of_ble_eq_true rfl, Nat.le_of_ble_eq_true rfl⟩)) rfl hl.1 rfl (Nat.le_of_ble_eq_true rfl) dX0_put_9 (fun v u5 H locs hp hF hS hz1 hk1 hd1 => ?_)
    obtain ⟨rfl, hw1⟩ := hp
    rw [hw1] at hF
    refine W.eq (g2 := F0 m 12 ls [.long (fl 1)]) rfl ?_
    refine fw_lret X hF hS ?_ (Nat.le_of_ble_eq_true rfl) (Nat.le_of_ble_eq_true rfl) dX0_put_12
    exact Or.inl ⟨c5_1, rfl, rfl⟩
set_option maxHeartbeats 4000000 in
set_option maxRecDepth 100000 in
theorem c_X0_numberAt (l : Launch) (D : va_G) (cs : Nat → ClassId) (w : fW) (sz : Nat) (h0 h1 : Nat) (n : Int32) (f : Nat → Int32) (h : w h0 = some (.inr (0, [.ref h1, .int n]))) (g : w h1 = some (.inl (cs 0, 12, .inl f))) (i : Int32) (hn : n ≤ 12) : gM l bs_B nw_B D cls10 (tyl cs) yX0_numberAt cX0_numberAt 2 (some .int) 1 21 0 0 w sz [.ref h0, .int i] (fun v w' => v = some (.int (if wi i n = true then f (ix i) else 0)) ∧ w' = w) := by
  refine gM.of (by decide +kernel) (Nat.le_of_ble_eq_true rfl) (fun p e s m below meth c A ls X hsz hnm hF hS hl => ?_)
  have hx := X.1
  have hb := X.2.1
  have hl : lv_has ls 2 [(0, .ref h0), (1, .int i)] := hl
  have h : w h0 = some (.inr (0, [.ref h1, .int n])) := h
  have g : w h1 = some (.inl (cs 0, 12, .inl f)) := g
  refine lv_iload_n hx hb dX0_numberAt_0 rfl (lv_at hl 1 rfl) ?_
  refine lv_aload_n hx hb dX0_numberAt_1 rfl (lv_at hl 0 rfl) ?_
  refine fw_get X gC_ok hF h rfl 1 (by decide) wm_120 rfl dX0_numberAt_2 ?_
  refine fw_callSN (As := [.int i, .int n]) (rest := []) X bs_all nw_all mf_X8_isWithin (c_X8_isWithin l D cs _ _ i n) nm_316 wm_209 hF hS rfl ((⟨⟨Nat.le_of_ble_eq_true rfl, Nat.le_of_ble_eq_true rfl⟩, Nat.le_of_ble_eq_true rfl, Nat.le_of_ble_eq_true rfl⟩)) rfl hl.1 rfl (Nat.le_of_ble_eq_true rfl) dX0_numberAt_5 (fun v u1 H locs hp hF hS hz1 hk1 hd1 => ?_)
  obtain ⟨rfl, hw1⟩ := hp
  rw [hw1] at hF
  refine W.eq (g2 := F0 m 8 ls [.int (bz (wi i n))]) rfl ?_
  refine gx_ifeq (tgt := 20) hx hb dX0_numberAt_8 (by decide) (fun c8_2 => ?_) (fun c8_2 => ?_)
  · refine lv_iconst (v := 0) hx hb dX0_numberAt_20 (by decide) ?_
    refine fw_iret X hF hS ?_ (Nat.le_of_ble_eq_true rfl) (Nat.le_of_ble_eq_true rfl) dX0_numberAt_21
    exact ⟨by simp [c8_2], rfl⟩
  · refine lv_aload_n hx hb dX0_numberAt_11 rfl (lv_at hl 0 rfl) ?_
    refine fw_get X gC_ok hF h rfl 0 (by decide) wm_119 rfl dX0_numberAt_12 ?_
    refine lv_iload_n hx hb dX0_numberAt_15 rfl (lv_at hl 1 rfl) ?_
    refine fw_iald X hF g 0 rfl (wi_in (wi_le c8_2 hn) (N := 12) (by decide)) (v := f (ix i)) rfl dX0_numberAt_16 ?_
    refine lv_goto (tgt := 21) hx hb dX0_numberAt_17 (by decide) ?_
    refine fw_iret X hF hS ?_ (Nat.le_of_ble_eq_true rfl) (Nat.le_of_ble_eq_true rfl) dX0_numberAt_21
    exact ⟨by simp [c8_2], rfl⟩
set_option maxHeartbeats 4000000 in
set_option maxRecDepth 100000 in
theorem c_X1_init (l : Launch) (D : va_G) (cs : Nat → ClassId) (w : fW) (sz : Nat) (h0 : Nat) (h : w h0 = some (.inr (1, [.null, .int 0, .int 0]))) : gM l bs_B nw_B D cls10 (tyl cs) yX1_init cX1_init 1 none 1 20 1 144 w sz [.ref h0] (fun v w' => v = none ∧ ∃ q, w q = none ∧ w' = va_up (va_up w q (some (.inl (cs 0, 144, .inl (fun _ => 0))))) h0 (some (.inr (1, [.ref q, .int (-1), .int 0])))) := by
  refine gM.of (by decide +kernel) (Nat.le_of_ble_eq_true rfl) (fun p e s m below meth c A ls X hsz hnm hF hS hl => ?_)
  have hx := X.1
  have hb := X.2.1
  have hl : lv_has ls 1 [(0, .ref h0)] := hl
  have h : w h0 = some (.inr (1, [.null, .int 0, .int 0])) := h
  refine lv_aload_n hx hb dX1_init_0 rfl (lv_at hl 0 rfl) ?_
  refine W.objInit hx hb X.2.2.2.1 (X.2.2.2.2.1 _ wm_149) (X.2.2.2.2.1 _ wm_42) (X.2.2.2.2.1 _ wm_43) rfl (by rw [X.2.2.1]; exact hl.1) rfl dX1_init_1 (Nat.le_of_ble_eq_true rfl) (Nat.le_of_ble_eq_true rfl) ?_
  refine W.eq (g2 := F0 m 4 ls []) rfl ?_
  refine lv_aload_n hx hb dX1_init_4 rfl (lv_at hl 0 rfl) ?_
  refine lv_sipush (v := 144) hx hb dX1_init_5 (by decide) ?_
  refine fw_newa X hF hS (atype := .int) wm_85 rfl (fun _ h => by cases h) 0 rfl (N' := 144) (a0 := (144, .inl (fun _ => 0))) rfl (by decide) (by decide) (by decide) (Nat.le_of_ble_eq_true rfl) (Nat.le_of_ble_eq_true rfl) dX1_init_8 (fun q1 H nq1 zq1 zzq1 hF hS => ?_)
  refine fw_putF X gC_ok hF hS ((va_up_ne _ _ (gx_ne h nq1)).trans h) rfl 0 (by decide) wm_150 rfl hnm rfl (tf := .array .int) (by decide +kernel) rfl rfl (Nat.le_of_ble_eq_true rfl) dX1_init_10 (fun H locs hF hS => ?_)
  have hF : fw_P D cls10 A (va_up (va_up w q1 (some (.inl (cs 0, 144, .inl (fun _ => 0))))) h0 (some (.inr (1, [.ref q1, .int 0, .int 0])))) H := hF
  refine lv_aload_n hx hb dX1_init_13 rfl (lv_at hl 0 rfl) ?_
  refine lv_iconst (v := (-1)) hx hb dX1_init_14 (by decide) ?_
  refine fw_put X gC_ok hF hS (va_up_self _ _ _) rfl 1 (by decide) wm_151 rfl (tf := .int) (by decide +kernel) rfl rfl (Nat.le_of_ble_eq_true rfl) dX1_init_15 (fun H locs hF hS => ?_)
  rw [bx_uu] at hF
  have hF : fw_P D cls10 A (va_up (va_up w q1 (some (.inl (cs 0, 144, .inl (fun _ => 0))))) h0 (some (.inr (1, [.ref q1, .int (-1), .int 0])))) H := hF
  refine fw_vret X hF hS ?_ (Nat.le_of_ble_eq_true rfl) (Nat.le_of_ble_eq_true rfl) dX1_init_18
  exact ⟨rfl, _, nq1, by simp only [bx_uu]⟩
set_option maxHeartbeats 4000000 in
set_option maxRecDepth 100000 in
theorem c_X1_make (l : Launch) (D : va_G) (cs : Nat → ClassId) (w : fW) (sz : Nat) (h0 h1 : Nat) (n k : Int32) (f : Nat → Int32) (h : w h0 = some (.inr (1, [.ref h1, .int n, .int k]))) (g : w h1 = some (.inl (cs 0, 144, .inl f))) (b d : Int32) : gM l bs_B nw_B D cls10 (tyl cs) yX1_make cX1_make 3 (some .long) 1 23 0 0 w sz [.ref h0, .int b, .int d] (fun v w' => ((b < 0 ∨ d < 0 ∨ 12 < b ∨ 12 < d) ∧ v = some (.long (fl 2)) ∧ w' = w) ∨ (¬ (b < 0 ∨ d < 0 ∨ 12 < b ∨ 12 < d) ∧ v = some (.long b.toInt64) ∧ w' = va_up (va_up w h1 (some (.inl (cs 0, 144, .inl (fun _ => 0))))) h0 (some (.inr (1, [.ref h1, .int b, .int d]))))) := by
  refine gM.of (by decide +kernel) (Nat.le_of_ble_eq_true rfl) (fun p e s m below meth c A ls X hsz hnm hF hS hl => ?_)
  have hx := X.1
  have hb := X.2.1
  have hl : lv_has ls 3 [(0, .ref h0), (1, .int b), (2, .int d)] := hl
  have h : w h0 = some (.inr (1, [.ref h1, .int n, .int k])) := h
  have g : w h1 = some (.inl (cs 0, 144, .inl f)) := g
  refine lv_iload_n hx hb dX1_make_0 rfl (lv_at hl 1 rfl) ?_
  refine lv_if_lt (tgt := 20) hx hb dX1_make_1 (by decide) (fun c1_1 => ?_) (fun c1_1 => ?_)
  · refine lv_iconst (v := 2) hx hb dX1_make_20 (by decide) ?_
    refine fw_callSN (As := [.int 2]) (rest := []) X bs_all nw_all mf_X8_failure (c_X8_failure l D cs _ _ 2) nm_297 wm_233 hF hS rfl ((⟨⟨Nat.le_of_ble_eq_true rfl, Nat.le_of_ble_eq_true rfl⟩, Nat.le_of_ble_eq_true rfl, Nat.le_of_ble_eq_true rfl⟩)) rfl hl.1 rfl (Nat.le_of_ble_eq_true rfl) dX1_make_21 (fun v u2 H locs hp hF hS hz1 hk1 hd1 => ?_)
    obtain ⟨rfl, hw1⟩ := hp
    rw [hw1] at hF
    refine W.eq (g2 := F0 m 24 ls [.long (fl 2)]) rfl ?_
    refine fw_lret X hF hS ?_ (Nat.le_of_ble_eq_true rfl) (Nat.le_of_ble_eq_true rfl) dX1_make_24
    exact Or.inl ⟨Or.inl c1_1, rfl, rfl⟩
  · refine lv_iload_n hx hb dX1_make_4 rfl (lv_at hl 2 rfl) ?_
    refine lv_if_lt (tgt := 20) hx hb dX1_make_5 (by decide) (fun c5_3 => ?_) (fun c5_3 => ?_)
    · refine lv_iconst (v := 2) hx hb dX1_make_20 (by decide) ?_
      refine fw_callSN (As := [.int 2]) (rest := []) X bs_all nw_all mf_X8_failure (c_X8_failure l D cs _ _ 2) nm_297 wm_233 hF hS rfl ((⟨⟨Nat.le_of_ble_eq_true rfl, Nat.le_of_ble_eq_true rfl⟩, Nat.le_of_ble_eq_true rfl, Nat.le_of_ble_eq_true rfl⟩)) rfl hl.1 rfl (Nat.le_of_ble_eq_true rfl) dX1_make_21 (fun v u4 H locs hp hF hS hz1 hk1 hd1 => ?_)
      obtain ⟨rfl, hw1⟩ := hp
      rw [hw1] at hF
      refine W.eq (g2 := F0 m 24 ls [.long (fl 2)]) rfl ?_
      refine fw_lret X hF hS ?_ (Nat.le_of_ble_eq_true rfl) (Nat.le_of_ble_eq_true rfl) dX1_make_24
      exact Or.inl ⟨Or.inr (Or.inl c5_3), rfl, rfl⟩
    · refine lv_iload_n hx hb dX1_make_8 rfl (lv_at hl 1 rfl) ?_
      refine lv_bipush (v := 12) hx hb dX1_make_9 (by decide) ?_
      refine lv_icmp_gt (tgt := 20) hx hb dX1_make_11 (by decide) (fun c11_5 => ?_) (fun c11_5 => ?_)
      · refine lv_iconst (v := 2) hx hb dX1_make_20 (by decide) ?_
        refine fw_callSN (As := [.int 2]) (rest := []) X bs_all nw_all mf_X8_failure (c_X8_failure l D cs _ _ 2) nm_297 wm_233 hF hS rfl ((⟨⟨Nat.le_of_ble_eq_true rfl, Nat.le_of_ble_eq_true rfl⟩, Nat.le_of_ble_eq_true rfl, Nat.le_of_ble_eq_true rfl⟩)) rfl hl.1 rfl (Nat.le_of_ble_eq_true rfl) dX1_make_21 (fun v u6 H locs hp hF hS hz1 hk1 hd1 => ?_)
        obtain ⟨rfl, hw1⟩ := hp
        rw [hw1] at hF
        refine W.eq (g2 := F0 m 24 ls [.long (fl 2)]) rfl ?_
        refine fw_lret X hF hS ?_ (Nat.le_of_ble_eq_true rfl) (Nat.le_of_ble_eq_true rfl) dX1_make_24
        exact Or.inl ⟨Or.inr (Or.inr (Or.inl c11_5)), rfl, rfl⟩
      · refine lv_iload_n hx hb dX1_make_14 rfl (lv_at hl 2 rfl) ?_
        refine lv_bipush (v := 12) hx hb dX1_make_15 (by decide) ?_
        refine lv_icmp_le (tgt := 25) hx hb dX1_make_17 (by decide) (fun c17_7 => ?_) (fun c17_7 => ?_)
        · refine lv_aload_n hx hb dX1_make_25 rfl (lv_at hl 0 rfl) ?_
          refine fw_get X gC_ok hF h rfl 0 (by decide) wm_150 rfl dX1_make_26 ?_
          refine lv_iconst (v := 0) hx hb dX1_make_29 (by decide) ?_
          refine fw_callS (As := [.ref h1, .int 0]) (rest := []) X bs_all nw_all mf_J7_fill_53178 (c_J7_fill_53178 l D cs _ _ h1 144 f 0 (by decide) g) wm_298 wm_286 hF hS rfl ((⟨⟨Nat.le_of_ble_eq_true rfl, Nat.le_of_ble_eq_true rfl⟩, Nat.le_of_ble_eq_true rfl, Nat.le_of_ble_eq_true rfl⟩)) rfl hl.1 rfl (Nat.le_of_ble_eq_true rfl) dX1_make_30 (fun v u8 H locs hp hF hS hz1 hk1 hd1 => ?_)
          obtain ⟨rfl, hw1⟩ := hp
          rw [hw1] at hF
          refine W.eq (g2 := F0 m 33 ls []) rfl ?_
          refine lv_aload_n hx hb dX1_make_33 rfl (lv_at hl 0 rfl) ?_
          refine lv_iload_n hx hb dX1_make_34 rfl (lv_at hl 1 rfl) ?_
          refine fw_put X gC_ok hF hS ((va_up_ne _ _ (gx_neA h g)).trans h) rfl 1 (by decide) wm_151 rfl (tf := .int) (by decide +kernel) rfl rfl (Nat.le_of_ble_eq_true rfl) dX1_make_35 (fun H locs hF hS => ?_)
          have hF : fw_P D cls10 A (va_up (va_up w h1 (some (.inl (cs 0, 144, .inl (fun _ => 0))))) h0 (some (.inr (1, [.ref h1, .int b, .int k])))) H := hF
          refine lv_aload_n hx hb dX1_make_38 rfl (lv_at hl 0 rfl) ?_
          refine lv_iload_n hx hb dX1_make_39 rfl (lv_at hl 2 rfl) ?_
          refine fw_put X gC_ok hF hS (va_up_self _ _ _) rfl 2 (by decide) wm_153 rfl (tf := .int) (by decide +kernel) rfl rfl (Nat.le_of_ble_eq_true rfl) dX1_make_40 (fun H locs hF hS => ?_)
          rw [bx_uu] at hF
          have hF : fw_P D cls10 A (va_up (va_up w h1 (some (.inl (cs 0, 144, .inl (fun _ => 0))))) h0 (some (.inr (1, [.ref h1, .int b, .int d])))) H := hF
          refine lv_iload_n hx hb dX1_make_43 rfl (lv_at hl 1 rfl) ?_
          refine lv_i2l hx hb dX1_make_44 rfl ?_
          refine fw_lret X hF hS ?_ (Nat.le_of_ble_eq_true rfl) (Nat.le_of_ble_eq_true rfl) dX1_make_45
          exact Or.inr ⟨fun q => q.elim c1_1 (fun q => q.elim c5_3 (fun q => q.elim c11_5 (fun z => i_nlt.mpr c17_7 z))), rfl, by simp only [bx_uu]⟩
        · refine lv_iconst (v := 2) hx hb dX1_make_20 (by decide) ?_
          refine fw_callSN (As := [.int 2]) (rest := []) X bs_all nw_all mf_X8_failure (c_X8_failure l D cs _ _ 2) nm_297 wm_233 hF hS rfl ((⟨⟨Nat.le_of_ble_eq_true rfl, Nat.le_of_ble_eq_true rfl⟩, Nat.le_of_ble_eq_true rfl, Nat.le_of_ble_eq_true rfl⟩)) rfl hl.1 rfl (Nat.le_of_ble_eq_true rfl) dX1_make_21 (fun v u9 H locs hp hF hS hz1 hk1 hd1 => ?_)
          obtain ⟨rfl, hw1⟩ := hp
          rw [hw1] at hF
          refine W.eq (g2 := F0 m 24 ls [.long (fl 2)]) rfl ?_
          refine fw_lret X hF hS ?_ (Nat.le_of_ble_eq_true rfl) (Nat.le_of_ble_eq_true rfl) dX1_make_24
          exact Or.inl ⟨Or.inr (Or.inr (Or.inr (i_nle.mp c17_7))), rfl, rfl⟩
set_option maxHeartbeats 4000000 in
set_option maxRecDepth 100000 in
theorem c_X1_has (l : Launch) (D : va_G) (cs : Nat → ClassId) (w : fW) (sz : Nat) (h0 h1 : Nat) (n k : Int32) (f : Nat → Int32) (h : w h0 = some (.inr (1, [.ref h1, .int n, .int k]))) (g : w h1 = some (.inl (cs 0, 144, .inl f))) (i j : Int32) : gM l bs_B nw_B D cls10 (tyl cs) yX1_has cX1_has 3 (some .boolean) 1 21 0 0 w sz [.ref h0, .int i, .int j] (fun v w' => v = some (.int (bz (wi i n && wi j k))) ∧ w' = w) := by
  refine gM.of (by decide +kernel) (Nat.le_of_ble_eq_true rfl) (fun p e s m below meth c A ls X hsz hnm hF hS hl => ?_)
  have hx := X.1
  have hb := X.2.1
  have hl : lv_has ls 3 [(0, .ref h0), (1, .int i), (2, .int j)] := hl
  have h : w h0 = some (.inr (1, [.ref h1, .int n, .int k])) := h
  have g : w h1 = some (.inl (cs 0, 144, .inl f)) := g
  refine lv_iload_n hx hb dX1_has_0 rfl (lv_at hl 1 rfl) ?_
  refine lv_aload_n hx hb dX1_has_1 rfl (lv_at hl 0 rfl) ?_
  refine fw_get X gC_ok hF h rfl 1 (by decide) wm_151 rfl dX1_has_2 ?_
  refine fw_callSN (As := [.int i, .int n]) (rest := []) X bs_all nw_all mf_X8_isWithin (c_X8_isWithin l D cs _ _ i n) nm_311 wm_209 hF hS rfl ((⟨⟨Nat.le_of_ble_eq_true rfl, Nat.le_of_ble_eq_true rfl⟩, Nat.le_of_ble_eq_true rfl, Nat.le_of_ble_eq_true rfl⟩)) rfl hl.1 rfl (Nat.le_of_ble_eq_true rfl) dX1_has_5 (fun v u1 H locs hp hF hS hz1 hk1 hd1 => ?_)
  obtain ⟨rfl, hw1⟩ := hp
  rw [hw1] at hF
  refine W.eq (g2 := F0 m 8 ls [.int (bz (wi i n))]) rfl ?_
  refine gx_ifeq (tgt := 26) hx hb dX1_has_8 (by decide) (fun c8_2 => ?_) (fun c8_2 => ?_)
  · refine lv_iconst (v := 0) hx hb dX1_has_26 (by decide) ?_
    refine fw_zret X hF hS rfl ?_ (Nat.le_of_ble_eq_true rfl) (Nat.le_of_ble_eq_true rfl) dX1_has_27
    exact ⟨by simp [bz, c8_2], rfl⟩
  · refine lv_iload_n hx hb dX1_has_11 rfl (lv_at hl 2 rfl) ?_
    refine lv_aload_n hx hb dX1_has_12 rfl (lv_at hl 0 rfl) ?_
    refine fw_get X gC_ok hF h rfl 2 (by decide) wm_153 rfl dX1_has_13 ?_
    refine fw_callSN (As := [.int j, .int k]) (rest := []) X bs_all nw_all mf_X8_isWithin (c_X8_isWithin l D cs _ _ j k) nm_311 wm_209 hF hS rfl ((⟨⟨Nat.le_of_ble_eq_true rfl, Nat.le_of_ble_eq_true rfl⟩, Nat.le_of_ble_eq_true rfl, Nat.le_of_ble_eq_true rfl⟩)) rfl hl.1 rfl (Nat.le_of_ble_eq_true rfl) dX1_has_16 (fun v u3 H locs hp hF hS hz1 hk1 hd1 => ?_)
    obtain ⟨rfl, hw1⟩ := hp
    rw [hw1] at hF
    refine W.eq (g2 := F0 m 19 ls [.int (bz (wi j k))]) rfl ?_
    refine gx_ifeq (tgt := 26) hx hb dX1_has_19 (by decide) (fun c19_4 => ?_) (fun c19_4 => ?_)
    · refine lv_iconst (v := 0) hx hb dX1_has_26 (by decide) ?_
      refine fw_zret X hF hS rfl ?_ (Nat.le_of_ble_eq_true rfl) (Nat.le_of_ble_eq_true rfl) dX1_has_27
      exact ⟨by simp [bz, c8_2, c19_4], rfl⟩
    · refine lv_iconst (v := 1) hx hb dX1_has_22 (by decide) ?_
      refine lv_goto (tgt := 27) hx hb dX1_has_23 (by decide) ?_
      refine fw_zret X hF hS rfl ?_ (Nat.le_of_ble_eq_true rfl) (Nat.le_of_ble_eq_true rfl) dX1_has_27
      exact ⟨by simp [bz, c8_2, c19_4], rfl⟩
set_option maxHeartbeats 4000000 in
set_option maxRecDepth 100000 in
theorem c_X1_rowLength (l : Launch) (D : va_G) (cs : Nat → ClassId) (w : fW) (sz : Nat) (h0 h1 : Nat) (n k : Int32) (f : Nat → Int32) (h : w h0 = some (.inr (1, [.ref h1, .int n, .int k]))) (g : w h1 = some (.inl (cs 0, 144, .inl f))) (i : Int32) : gM l bs_B nw_B D cls10 (tyl cs) yX1_rowLength cX1_rowLength 2 (some .long) 1 21 0 0 w sz [.ref h0, .int i] (fun v w' => (n = -1 ∧ v = some (.long (fl 1)) ∧ w' = w) ∨ (¬ n = -1 ∧ wi i n = false ∧ v = some (.long (fl 3)) ∧ w' = w) ∨ (¬ n = -1 ∧ wi i n = true ∧ v = some (.long k.toInt64) ∧ w' = w)) := by
  refine gM.of (by decide +kernel) (Nat.le_of_ble_eq_true rfl) (fun p e s m below meth c A ls X hsz hnm hF hS hl => ?_)
  have hx := X.1
  have hb := X.2.1
  have hl : lv_has ls 2 [(0, .ref h0), (1, .int i)] := hl
  have h : w h0 = some (.inr (1, [.ref h1, .int n, .int k])) := h
  have g : w h1 = some (.inl (cs 0, 144, .inl f)) := g
  refine lv_aload_n hx hb dX1_rowLength_0 rfl (lv_at hl 0 rfl) ?_
  refine fw_get X gC_ok hF h rfl 1 (by decide) wm_151 rfl dX1_rowLength_1 ?_
  refine lv_iconst (v := (-1)) hx hb dX1_rowLength_4 (by decide) ?_
  refine lv_icmp_ne (tgt := 13) hx hb dX1_rowLength_5 (by decide) (fun c5_1 => ?_) (fun c5_1 => ?_)
  · refine lv_iload_n hx hb dX1_rowLength_13 rfl (lv_at hl 1 rfl) ?_
    refine lv_aload_n hx hb dX1_rowLength_14 rfl (lv_at hl 0 rfl) ?_
    refine fw_get X gC_ok hF h rfl 1 (by decide) wm_151 rfl dX1_rowLength_15 ?_
    refine fw_callSN (As := [.int i, .int n]) (rest := []) X bs_all nw_all mf_X8_isWithin (c_X8_isWithin l D cs _ _ i n) nm_311 wm_209 hF hS rfl ((⟨⟨Nat.le_of_ble_eq_true rfl, Nat.le_of_ble_eq_true rfl⟩, Nat.le_of_ble_eq_true rfl, Nat.le_of_ble_eq_true rfl⟩)) rfl hl.1 rfl (Nat.le_of_ble_eq_true rfl) dX1_rowLength_18 (fun v u2 H locs hp hF hS hz1 hk1 hd1 => ?_)
    obtain ⟨rfl, hw1⟩ := hp
    rw [hw1] at hF
    refine W.eq (g2 := F0 m 21 ls [.int (bz (wi i n))]) rfl ?_
    refine gx_ifeq (tgt := 32) hx hb dX1_rowLength_21 (by decide) (fun c21_3 => ?_) (fun c21_3 => ?_)
    · refine lv_iconst (v := 3) hx hb dX1_rowLength_32 (by decide) ?_
      refine fw_callSN (As := [.int 3]) (rest := []) X bs_all nw_all mf_X8_failure (c_X8_failure l D cs _ _ 3) nm_297 wm_233 hF hS rfl ((⟨⟨Nat.le_of_ble_eq_true rfl, Nat.le_of_ble_eq_true rfl⟩, Nat.le_of_ble_eq_true rfl, Nat.le_of_ble_eq_true rfl⟩)) rfl hl.1 rfl (Nat.le_of_ble_eq_true rfl) dX1_rowLength_33 (fun v u4 H locs hp hF hS hz1 hk1 hd1 => ?_)
      obtain ⟨rfl, hw1⟩ := hp
      rw [hw1] at hF
      refine W.eq (g2 := F0 m 36 ls [.long (fl 3)]) rfl ?_
      refine fw_lret X hF hS ?_ (Nat.le_of_ble_eq_true rfl) (Nat.le_of_ble_eq_true rfl) dX1_rowLength_36
      exact Or.inr (Or.inl ⟨c5_1, c21_3, rfl, rfl⟩)
    · refine lv_aload_n hx hb dX1_rowLength_24 rfl (lv_at hl 0 rfl) ?_
      refine fw_get X gC_ok hF h rfl 2 (by decide) wm_153 rfl dX1_rowLength_25 ?_
      refine lv_i2l hx hb dX1_rowLength_28 rfl ?_
      refine lv_goto (tgt := 36) hx hb dX1_rowLength_29 (by decide) ?_
      refine fw_lret X hF hS ?_ (Nat.le_of_ble_eq_true rfl) (Nat.le_of_ble_eq_true rfl) dX1_rowLength_36
      exact Or.inr (Or.inr ⟨c5_1, c21_3, rfl, rfl⟩)
  · refine lv_iconst (v := 1) hx hb dX1_rowLength_8 (by decide) ?_
    refine fw_callSN (As := [.int 1]) (rest := []) X bs_all nw_all mf_X8_failure (c_X8_failure l D cs _ _ 1) nm_297 wm_233 hF hS rfl ((⟨⟨Nat.le_of_ble_eq_true rfl, Nat.le_of_ble_eq_true rfl⟩, Nat.le_of_ble_eq_true rfl, Nat.le_of_ble_eq_true rfl⟩)) rfl hl.1 rfl (Nat.le_of_ble_eq_true rfl) dX1_rowLength_9 (fun v u5 H locs hp hF hS hz1 hk1 hd1 => ?_)
    obtain ⟨rfl, hw1⟩ := hp
    rw [hw1] at hF
    refine W.eq (g2 := F0 m 12 ls [.long (fl 1)]) rfl ?_
    refine fw_lret X hF hS ?_ (Nat.le_of_ble_eq_true rfl) (Nat.le_of_ble_eq_true rfl) dX1_rowLength_12
    exact Or.inl ⟨c5_1, rfl, rfl⟩
set_option maxHeartbeats 4000000 in
set_option maxRecDepth 100000 in
theorem c_X1_addOne (l : Launch) (D : va_G) (cs : Nat → ClassId) (w : fW) (sz : Nat) (h0 h1 : Nat) (n k : Int32) (f : Nat → Int32) (h : w h0 = some (.inr (1, [.ref h1, .int n, .int k]))) (g : w h1 = some (.inl (cs 0, 144, .inl f))) (i j : Int32) (hn : n ≤ 12) (hk : k ≤ 12) : gM l bs_B nw_B D cls10 (tyl cs) yX1_addOne cX1_addOne 4 (some .long) 2 43 0 0 w sz [.ref h0, .int i, .int j] (fun v w' => (n = -1 ∧ v = some (.long (fl 1)) ∧ w' = w) ∨ (¬ n = -1 ∧ (wi i n && wi j k) = false ∧ v = some (.long (fl 3)) ∧ w' = w) ∨ (¬ n = -1 ∧ (wi i n && wi j k) = true ∧ v = some (.long (f (12 * ix i + ix j) + 1).toInt64) ∧ w' = va_up w h1 (some (.inl (cs 0, 144, .inl (upd f (12 * ix i + ix j) (f (12 * ix i + ix j) + 1))))))) := by
  refine gM.of (by decide +kernel) (Nat.le_of_ble_eq_true rfl) (fun p e s m below meth c A ls X hsz hnm hF hS hl => ?_)
  have hx := X.1
  have hb := X.2.1
  have hl : lv_has ls 4 [(0, .ref h0), (1, .int i), (2, .int j)] := hl
  have h : w h0 = some (.inr (1, [.ref h1, .int n, .int k])) := h
  have g : w h1 = some (.inl (cs 0, 144, .inl f)) := g
  refine lv_aload_n hx hb dX1_addOne_0 rfl (lv_at hl 0 rfl) ?_
  refine fw_get X gC_ok hF h rfl 1 (by decide) wm_151 rfl dX1_addOne_1 ?_
  refine lv_iconst (v := (-1)) hx hb dX1_addOne_4 (by decide) ?_
  refine lv_icmp_ne (tgt := 13) hx hb dX1_addOne_5 (by decide) (fun c5_1 => ?_) (fun c5_1 => ?_)
  · refine lv_aload_n hx hb dX1_addOne_13 rfl (lv_at hl 0 rfl) ?_
    refine lv_iload_n hx hb dX1_addOne_14 rfl (lv_at hl 1 rfl) ?_
    refine lv_iload_n hx hb dX1_addOne_15 rfl (lv_at hl 2 rfl) ?_
    refine fw_callV (As := [.int i, .int j]) (rest := []) X bs_all nw_all mf_X1_has (c_X1_has l D cs _ _ h0 h1 n k f h g i j) wm_321 wm_322 wm_323 hF hS rfl h rfl rfl ((⟨⟨Nat.le_of_ble_eq_true rfl, Nat.le_of_ble_eq_true rfl⟩, Nat.le_of_ble_eq_true rfl, Nat.le_of_ble_eq_true rfl⟩)) rfl hl.1 rfl (Nat.le_of_ble_eq_true rfl) dX1_addOne_16 (fun v u2 H locs hp hF hS hz1 hk1 hd1 => ?_)
    obtain ⟨rfl, hw1⟩ := hp
    rw [hw1] at hF
    refine W.eq (g2 := F0 m 19 ls [.int (bz (wi i n && wi j k))]) rfl ?_
    refine gx_ifne (tgt := 27) hx hb dX1_addOne_19 (by decide) (fun c19_3 => ?_) (fun c19_3 => ?_)
    · have hij := Bool.and_eq_true_iff.mp c19_3
      have hgx := g_ix (wi_le hij.1 hn) (wi_le hij.2 hk)
      refine lv_iload_n hx hb dX1_addOne_27 rfl (lv_at hl 1 rfl) ?_
      refine lv_bipush (v := 12) hx hb dX1_addOne_28 (by decide) ?_
      refine lv_imul hx hb dX1_addOne_30 ?_
      refine lv_iload_n hx hb dX1_addOne_31 rfl (lv_at hl 2 rfl) ?_
      refine lv_iadd hx hb dX1_addOne_32 ?_
      refine lv_istore_n (lv' := [(3, .int ((i * 12) + j)), (0, .ref h0), (1, .int i), (2, .int j)]) hx hb dX1_addOne_33 rfl hl (by decide) rfl (fun ls hl => ?_)
      refine lv_aload_n hx hb dX1_addOne_34 rfl (lv_at hl 1 rfl) ?_
      refine fw_get X gC_ok hF h rfl 0 (by decide) wm_150 rfl dX1_addOne_35 ?_
      refine lv_iload_n hx hb dX1_addOne_38 rfl (lv_at hl 0 rfl) ?_
      refine lv_dup2_11 hx hb dX1_addOne_39 rfl rfl ?_
      refine fw_iald X hF g 0 rfl hgx.1 (v := f (ix ((i * 12) + j))) rfl dX1_addOne_40 ?_
      refine lv_iconst (v := 1) hx hb dX1_addOne_41 (by decide) ?_
      refine lv_iadd hx hb dX1_addOne_42 ?_
      refine fw_iast X hF hS g 0 rfl hgx.1 dX1_addOne_43 (fun H locs hF hS => ?_)
      have hF : fw_P D cls10 A (va_up w h1 (some (.inl (cs 0, 144, .inl (upd f (ix ((i * 12) + j)) ((f (ix ((i * 12) + j))) + 1)))))) H := hF
      refine lv_aload_n hx hb dX1_addOne_44 rfl (lv_at hl 1 rfl) ?_
      refine fw_get X gC_ok hF ((va_up_ne _ _ (gx_neA h g)).trans h) rfl 0 (by decide) wm_150 rfl dX1_addOne_45 ?_
      refine lv_iload_n hx hb dX1_addOne_48 rfl (lv_at hl 0 rfl) ?_
      refine fw_iald X hF (va_up_self _ _ _) 0 rfl hgx.1 (v := (upd f (ix ((i * 12) + j)) ((f (ix ((i * 12) + j))) + 1)) (ix ((i * 12) + j))) rfl dX1_addOne_49 ?_
      refine lv_i2l hx hb dX1_addOne_50 rfl ?_
      refine fw_lret X hF hS ?_ (Nat.le_of_ble_eq_true rfl) (Nat.le_of_ble_eq_true rfl) dX1_addOne_51
      refine Or.inr (Or.inr ⟨c5_1, c19_3, ?_, ?_⟩)
      · rw [← hgx.2]; simp [upd]
      · rw [← hgx.2]
    · refine lv_iconst (v := 3) hx hb dX1_addOne_22 (by decide) ?_
      refine fw_callSN (As := [.int 3]) (rest := []) X bs_all nw_all mf_X8_failure (c_X8_failure l D cs _ _ 3) nm_297 wm_233 hF hS rfl ((⟨⟨Nat.le_of_ble_eq_true rfl, Nat.le_of_ble_eq_true rfl⟩, Nat.le_of_ble_eq_true rfl, Nat.le_of_ble_eq_true rfl⟩)) rfl hl.1 rfl (Nat.le_of_ble_eq_true rfl) dX1_addOne_23 (fun v u4 H locs hp hF hS hz1 hk1 hd1 => ?_)
      obtain ⟨rfl, hw1⟩ := hp
      rw [hw1] at hF
      refine W.eq (g2 := F0 m 26 ls [.long (fl 3)]) rfl ?_
      refine fw_lret X hF hS ?_ (Nat.le_of_ble_eq_true rfl) (Nat.le_of_ble_eq_true rfl) dX1_addOne_26
      exact Or.inr (Or.inl ⟨c5_1, c19_3, rfl, rfl⟩)
  · refine lv_iconst (v := 1) hx hb dX1_addOne_8 (by decide) ?_
    refine fw_callSN (As := [.int 1]) (rest := []) X bs_all nw_all mf_X8_failure (c_X8_failure l D cs _ _ 1) nm_297 wm_233 hF hS rfl ((⟨⟨Nat.le_of_ble_eq_true rfl, Nat.le_of_ble_eq_true rfl⟩, Nat.le_of_ble_eq_true rfl, Nat.le_of_ble_eq_true rfl⟩)) rfl hl.1 rfl (Nat.le_of_ble_eq_true rfl) dX1_addOne_9 (fun v u5 H locs hp hF hS hz1 hk1 hd1 => ?_)
    obtain ⟨rfl, hw1⟩ := hp
    rw [hw1] at hF
    refine W.eq (g2 := F0 m 12 ls [.long (fl 1)]) rfl ?_
    refine fw_lret X hF hS ?_ (Nat.le_of_ble_eq_true rfl) (Nat.le_of_ble_eq_true rfl) dX1_addOne_12
    exact Or.inl ⟨c5_1, rfl, rfl⟩
set_option maxHeartbeats 4000000 in
set_option maxRecDepth 100000 in
theorem c_X1_numberAt (l : Launch) (D : va_G) (cs : Nat → ClassId) (w : fW) (sz : Nat) (h0 h1 : Nat) (n k : Int32) (f : Nat → Int32) (h : w h0 = some (.inr (1, [.ref h1, .int n, .int k]))) (g : w h1 = some (.inl (cs 0, 144, .inl f))) (i j : Int32) (hn : n ≤ 12) (hk : k ≤ 12) : gM l bs_B nw_B D cls10 (tyl cs) yX1_numberAt cX1_numberAt 3 (some .int) 2 43 0 0 w sz [.ref h0, .int i, .int j] (fun v w' => v = some (.int (if (wi i n && wi j k) = true then f (12 * ix i + ix j) else 0)) ∧ w' = w) := by
  refine gM.of (by decide +kernel) (Nat.le_of_ble_eq_true rfl) (fun p e s m below meth c A ls X hsz hnm hF hS hl => ?_)
  have hx := X.1
  have hb := X.2.1
  have hl : lv_has ls 3 [(0, .ref h0), (1, .int i), (2, .int j)] := hl
  have h : w h0 = some (.inr (1, [.ref h1, .int n, .int k])) := h
  have g : w h1 = some (.inl (cs 0, 144, .inl f)) := g
  refine lv_aload_n hx hb dX1_numberAt_0 rfl (lv_at hl 0 rfl) ?_
  refine lv_iload_n hx hb dX1_numberAt_1 rfl (lv_at hl 1 rfl) ?_
  refine lv_iload_n hx hb dX1_numberAt_2 rfl (lv_at hl 2 rfl) ?_
  refine fw_callV (As := [.int i, .int j]) (rest := []) X bs_all nw_all mf_X1_has (c_X1_has l D cs _ _ h0 h1 n k f h g i j) wm_321 wm_322 wm_323 hF hS rfl h rfl rfl ((⟨⟨Nat.le_of_ble_eq_true rfl, Nat.le_of_ble_eq_true rfl⟩, Nat.le_of_ble_eq_true rfl, Nat.le_of_ble_eq_true rfl⟩)) rfl hl.1 rfl (Nat.le_of_ble_eq_true rfl) dX1_numberAt_3 (fun v u1 H locs hp hF hS hz1 hk1 hd1 => ?_)
  obtain ⟨rfl, hw1⟩ := hp
  rw [hw1] at hF
  refine W.eq (g2 := F0 m 6 ls [.int (bz (wi i n && wi j k))]) rfl ?_
  refine gx_ifeq (tgt := 23) hx hb dX1_numberAt_6 (by decide) (fun c6_2 => ?_) (fun c6_2 => ?_)
  · refine lv_iconst (v := 0) hx hb dX1_numberAt_23 (by decide) ?_
    refine fw_iret X hF hS ?_ (Nat.le_of_ble_eq_true rfl) (Nat.le_of_ble_eq_true rfl) dX1_numberAt_24
    exact ⟨by simp [c6_2], rfl⟩
  · have hij := Bool.and_eq_true_iff.mp c6_2
    have hgx := g_ix (wi_le hij.1 hn) (wi_le hij.2 hk)
    refine lv_aload_n hx hb dX1_numberAt_9 rfl (lv_at hl 0 rfl) ?_
    refine fw_get X gC_ok hF h rfl 0 (by decide) wm_150 rfl dX1_numberAt_10 ?_
    refine lv_iload_n hx hb dX1_numberAt_13 rfl (lv_at hl 1 rfl) ?_
    refine lv_bipush (v := 12) hx hb dX1_numberAt_14 (by decide) ?_
    refine lv_imul hx hb dX1_numberAt_16 ?_
    refine lv_iload_n hx hb dX1_numberAt_17 rfl (lv_at hl 2 rfl) ?_
    refine lv_iadd hx hb dX1_numberAt_18 ?_
    refine fw_iald X hF g 0 rfl hgx.1 (v := f (ix ((i * 12) + j))) rfl dX1_numberAt_19 ?_
    refine lv_goto (tgt := 24) hx hb dX1_numberAt_20 (by decide) ?_
    refine fw_iret X hF hS ?_ (Nat.le_of_ble_eq_true rfl) (Nat.le_of_ble_eq_true rfl) dX1_numberAt_24
    refine ⟨?_, rfl⟩
    rw [← hgx.2]
    simp [c6_2]
