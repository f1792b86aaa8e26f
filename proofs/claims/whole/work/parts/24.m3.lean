def us1 (M : Nat → Nat → Int32) (x : Int32) : Nat → Bool
  | 0 => false
  | n + 1 => us1 M x n || decide (M 2 n = x)
def us2 (M : Nat → Nat → Int32) (x : Int32) : Nat → Bool
  | 0 => us1 M x 8
  | n + 1 => us2 M x n || (decide (nI (n % 20) < M 10 (n / 20)) && decide (M 12 n = x))
def mUsed (M : Nat → Nat → Int32) (x : Int32) : Bool := us2 M x 80
def fill (f : Nat → Int32) (s n : Nat) (x : Int32) : Nat → Int32 := fun j => if s ≤ j ∧ j < s + n then x else f j
theorem fill_0 (f : Nat → Int32) (s : Nat) (x : Int32) : fill f s 0 x = f := by
  funext j; unfold fill; rw [if_neg (by omega)]
theorem fill_s (f : Nat → Int32) (s i : Nat) (x : Int32) : upd (fill f s i x) (s + i) x = fill f s (i + 1) x := by
  funext j
  unfold fill upd
  by_cases h : j = s + i
  · rw [if_pos h, if_pos (by omega)]
  · rw [if_neg h]
    show (if s ≤ j ∧ j < s + i then x else f j) = _
    by_cases h2 : s ≤ j ∧ j < s + i
    · rw [if_pos h2, if_pos (by omega)]
    · rw [if_neg h2, if_neg (by omega)]
theorem upd_id (f : Nat → Int32) (i : Nat) (x : Int32) (h : f i = x) : upd f i x = f := by
  funext j; unfold upd; split
  · rename_i e; rw [e]; exact h.symm
  · rfl
theorem va_id {α : Type} (f : Nat → α) (k : Nat) : va_up f k (f k) = f := by
  funext j; unfold va_up; split
  · rename_i e; rw [e]
  · rfl
set_option maxHeartbeats 4000000 in
set_option maxRecDepth 100000 in
theorem c_X9_isUsed (l : Launch) (D : va_G) (cs : Nat → ClassId) (w : fW) (sz : Nat) (am : Nat → Nat) (M : Nat → Nat → Int32) (R : aRe) (wy an : Int32) (hM : MWd cs am (M, R, wy, an) w) (x : Int32) : gM l bs_B nw_B D cls10 (tyl cs) yX9_isUsed cX9_isUsed 4 (some .boolean) 0 0 0 0 w sz [.ref (am 28), .int x] (fun v w' => v = some (.int (bz (mUsed M x))) ∧ MWd cs am (M, R, wy, an) w') := by
  refine gM.of (by decide +kernel) (Nat.le_of_ble_eq_true rfl) (fun p e s m below meth c A ls X hsz hnm hF hS hl => ?_)
  have hx := X.1
  have hb := X.2.1
  have loop2 : ∀ (n9 i : Nat), i + n9 = 80 → ∀ (ls : Array Slot), lv_has ls 4 [(0, .ref (am 28)), (1, .int x), (2, .int (bz (us2 M x i))), (3, .int (nI i))] → W p l e ({ frames := 0, cells := 0, slots := 0, locals := 0 } : Room) s m ([.ref (am 28), .int x] : List Value).toArray below meth c s.heap [] 0 0 (MQ below (gQ D cls10 A (fun v w' => v = some (.int (bz (mUsed M x))) ∧ MWd cs am (M, R, wy, an) w')) ([.ref (am 28), .int x] : List Value).toArray s 0 0 A) (F0 m 38 ls []) := by
    intro n9
    induction n9 with
    | zero =>
      intro i hi ls hl
      refine lv_iload_n hx hb dX9_isUsed_38 rfl (lv_at hl 3 rfl) ?_
      refine lv_bipush (v := 80) hx hb dX9_isUsed_39 (by decide) ?_
      refine lv_icmp_ge (tgt := 86) hx hb dX9_isUsed_41 (by decide) (fun c41_1 => ?_) (fun c41_1 => ?_)
      · refine lv_iload_n hx hb dX9_isUsed_86 rfl (lv_at hl 2 rfl) ?_
        refine fw_zret X hF hS (gx_nbz _) ?_ (Nat.le_of_ble_eq_true rfl) (Nat.le_of_ble_eq_true rfl) dX9_isUsed_87
        rw [show i = 80 by omega]
        exact ⟨rfl, hM⟩
      · exact absurd (show nI 80 ≤ nI i from nI_le (by omega) (by omega)) c41_1
    | succ n9 ih =>
      intro i hi ls hl
      have ed : nI i / 20 = nI (i / 20) := pk_div (d := 20) (by omega) (by decide) (by decide)
      have er : nI i - nI i / 20 * 20 = nI (i % 20) := pk_rem (d := 20) (by omega) (by decide) (by decide)
      have hq20 : i / 20 < 4 := by omega
      refine lv_iload_n hx hb dX9_isUsed_38 rfl (lv_at hl 3 rfl) ?_
      refine lv_bipush (v := 80) hx hb dX9_isUsed_39 (by decide) ?_
      refine lv_icmp_ge (tgt := 86) hx hb dX9_isUsed_41 (by decide) (fun c41_1 => ?_) (fun c41_1 => ?_)
      · exact absurd (show nI 80 ≤ nI i from c41_1) (nI_ge (by omega) (by decide))
      · refine lv_iload_n hx hb dX9_isUsed_44 rfl (lv_at hl 2 rfl) ?_
        refine gx_ifne (tgt := 74) hx hb dX9_isUsed_45 (by decide) (fun c45_2 => ?_) (fun c45_2 => ?_)
        · refine lv_iconst (v := 1) hx hb dX9_isUsed_74 (by decide) ?_
          refine lv_goto (tgt := 79) hx hb dX9_isUsed_75 (by decide) ?_
          refine lv_istore_n (lv' := [(2, .int 1), (0, .ref (am 28)), (1, .int x), (3, .int (nI i))]) hx hb dX9_isUsed_79 rfl hl (by decide) rfl (fun ls hl => ?_)
          refine lv_iinc (v := nI (i + 1)) (lv' := [(3, .int (nI (i + 1))), (2, .int 1), (0, .ref (am 28)), (1, .int x)]) hx hb dX9_isUsed_80 hl (k := 3) rfl (nI_1 i) (by decide) rfl (fun ls hl => ?_)
          refine lv_goto (tgt := 38) hx hb dX9_isUsed_83 (by decide) ?_
          have e9 : 1 = bz (us2 M x (i + 1)) := by rw [show us2 M x (i + 1) = true by simp [us2, c45_2]]; rfl
          rw [e9] at hl
          exact ih (i + 1) (by omega) ls (lv_sub hl [2, 3, 1, 0] rfl)
        · refine lv_aload_n hx hb dX9_isUsed_48 rfl (lv_at hl 0 rfl) ?_
          refine fw_get (v := .ref (am 10)) X gC_ok hF hM.2.1 rfl 10 (by decide) wm_489 rfl dX9_isUsed_49 ?_
          refine lv_iload_n hx hb dX9_isUsed_52 rfl (lv_at hl 3 rfl) ?_
          refine lv_bipush (v := 20) hx hb dX9_isUsed_53 (by decide) ?_
          refine lv_idiv hx hb dX9_isUsed_55 (by decide) ?_
          refine fw_iald X hF (hM.2.2 10 (Or.inl (by decide))) 0 rfl (show vp_in ((nI i) / 20) 4 by rw [ed]; exact vp_in_nI (by omega) (by decide)) (v := (M 10) (i / 20)) (by rw [ed, nI_clamp (by omega)] <;> rfl) dX9_isUsed_56 ?_
          refine lv_iload_n hx hb dX9_isUsed_57 rfl (lv_at hl 3 rfl) ?_
          refine lv_bipush (v := 20) hx hb dX9_isUsed_58 (by decide) ?_
          refine lv_irem hx hb dX9_isUsed_60 (by decide) ?_
          refine lv_icmp_le (tgt := 78) hx hb dX9_isUsed_61 (by decide) (fun c61_3 => ?_) (fun c61_3 => ?_)
          · refine lv_iconst (v := 0) hx hb dX9_isUsed_78 (by decide) ?_
            refine lv_istore_n (lv' := [(2, .int 0), (0, .ref (am 28)), (1, .int x), (3, .int (nI i))]) hx hb dX9_isUsed_79 rfl hl (by decide) rfl (fun ls hl => ?_)
            refine lv_iinc (v := nI (i + 1)) (lv' := [(3, .int (nI (i + 1))), (2, .int 0), (0, .ref (am 28)), (1, .int x)]) hx hb dX9_isUsed_80 hl (k := 3) rfl (nI_1 i) (by decide) rfl (fun ls hl => ?_)
            refine lv_goto (tgt := 38) hx hb dX9_isUsed_83 (by decide) ?_
            rw [er] at c61_3
            have gc61_3 := i_nlt.mpr c61_3
            have e9 : 0 = bz (us2 M x (i + 1)) := by rw [show us2 M x (i + 1) = false by simp [us2, c45_2, gc61_3]]; rfl
            rw [e9] at hl
            exact ih (i + 1) (by omega) ls (lv_sub hl [2, 3, 1, 0] rfl)
          · refine lv_aload_n hx hb dX9_isUsed_64 rfl (lv_at hl 0 rfl) ?_
            refine fw_get (v := .ref (am 12)) X gC_ok hF hM.2.1 rfl 12 (by decide) wm_491 rfl dX9_isUsed_65 ?_
            refine lv_iload_n hx hb dX9_isUsed_68 rfl (lv_at hl 3 rfl) ?_
            refine fw_iald X hF (hM.2.2 12 (Or.inl (by decide))) 0 rfl (show vp_in (nI i) 80 from vp_in_nI (by omega) (by decide)) (v := (M 12) i) (by rw [nI_clamp (by omega)] <;> rfl) dX9_isUsed_69 ?_
            refine lv_iload_n hx hb dX9_isUsed_70 rfl (lv_at hl 1 rfl) ?_
            refine lv_icmp_ne (tgt := 78) hx hb dX9_isUsed_71 (by decide) (fun c71_4 => ?_) (fun c71_4 => ?_)
            · refine lv_iconst (v := 0) hx hb dX9_isUsed_78 (by decide) ?_
              refine lv_istore_n (lv' := [(2, .int 0), (0, .ref (am 28)), (1, .int x), (3, .int (nI i))]) hx hb dX9_isUsed_79 rfl hl (by decide) rfl (fun ls hl => ?_)
              refine lv_iinc (v := nI (i + 1)) (lv' := [(3, .int (nI (i + 1))), (2, .int 0), (0, .ref (am 28)), (1, .int x)]) hx hb dX9_isUsed_80 hl (k := 3) rfl (nI_1 i) (by decide) rfl (fun ls hl => ?_)
              refine lv_goto (tgt := 38) hx hb dX9_isUsed_83 (by decide) ?_
              rw [er] at c61_3
              have gc61_3 := i_nle.mp c61_3
              have e9 : 0 = bz (us2 M x (i + 1)) := by rw [show us2 M x (i + 1) = false by simp [us2, c45_2, gc61_3, c71_4]]; rfl
              rw [e9] at hl
              exact ih (i + 1) (by omega) ls (lv_sub hl [2, 3, 1, 0] rfl)
            · refine lv_iconst (v := 1) hx hb dX9_isUsed_74 (by decide) ?_
              refine lv_goto (tgt := 79) hx hb dX9_isUsed_75 (by decide) ?_
              refine lv_istore_n (lv' := [(2, .int 1), (0, .ref (am 28)), (1, .int x), (3, .int (nI i))]) hx hb dX9_isUsed_79 rfl hl (by decide) rfl (fun ls hl => ?_)
              refine lv_iinc (v := nI (i + 1)) (lv' := [(3, .int (nI (i + 1))), (2, .int 1), (0, .ref (am 28)), (1, .int x)]) hx hb dX9_isUsed_80 hl (k := 3) rfl (nI_1 i) (by decide) rfl (fun ls hl => ?_)
              refine lv_goto (tgt := 38) hx hb dX9_isUsed_83 (by decide) ?_
              rw [er] at c61_3
              have gc61_3 := i_nle.mp c61_3
              have e9 : 1 = bz (us2 M x (i + 1)) := by rw [show us2 M x (i + 1) = true by simp [us2, c45_2, gc61_3, c71_4]]; rfl
              rw [e9] at hl
              exact ih (i + 1) (by omega) ls (lv_sub hl [2, 3, 1, 0] rfl)
  have loop1 : ∀ (n9 i : Nat), i + n9 = 8 → ∀ (ls : Array Slot), lv_has ls 4 [(0, .ref (am 28)), (1, .int x), (2, .int (bz (us1 M x i))), (3, .int (nI i))] → W p l e ({ frames := 0, cells := 0, slots := 0, locals := 0 } : Room) s m ([.ref (am 28), .int x] : List Value).toArray below meth c s.heap [] 0 0 (MQ below (gQ D cls10 A (fun v w' => v = some (.int (bz (mUsed M x))) ∧ MWd cs am (M, R, wy, an) w')) ([.ref (am 28), .int x] : List Value).toArray s 0 0 A) (F0 m 4 ls []) := by
    intro n9
    induction n9 with
    | zero =>
      intro i hi ls hl
      refine lv_iload_n hx hb dX9_isUsed_4 rfl (lv_at hl 3 rfl) ?_
      refine lv_bipush (v := 8) hx hb dX9_isUsed_5 (by decide) ?_
      refine lv_icmp_ge (tgt := 36) hx hb dX9_isUsed_7 (by decide) (fun c7_1 => ?_) (fun c7_1 => ?_)
      · refine lv_iconst (v := 0) hx hb dX9_isUsed_36 (by decide) ?_
        refine lv_istore_n (lv' := [(3, .int 0), (0, .ref (am 28)), (1, .int x), (2, .int (bz (us1 M x i)))]) hx hb dX9_isUsed_37 rfl hl (by decide) rfl (fun ls hl => ?_)
        rw [show i = 8 by omega] at hl
        exact loop2 80 0 (by omega) ls (lv_sub hl [1, 2, 3, 0] rfl)
      · exact absurd (show nI 8 ≤ nI i from nI_le (by omega) (by omega)) c7_1
    | succ n9 ih =>
      intro i hi ls hl
      refine lv_iload_n hx hb dX9_isUsed_4 rfl (lv_at hl 3 rfl) ?_
      refine lv_bipush (v := 8) hx hb dX9_isUsed_5 (by decide) ?_
      refine lv_icmp_ge (tgt := 36) hx hb dX9_isUsed_7 (by decide) (fun c7_1 => ?_) (fun c7_1 => ?_)
      · exact absurd (show nI 8 ≤ nI i from c7_1) (nI_ge (by omega) (by decide))
      · refine lv_iload_n hx hb dX9_isUsed_10 rfl (lv_at hl 2 rfl) ?_
        refine gx_ifne (tgt := 24) hx hb dX9_isUsed_11 (by decide) (fun c11_2 => ?_) (fun c11_2 => ?_)
        · refine lv_iconst (v := 1) hx hb dX9_isUsed_24 (by decide) ?_
          refine lv_goto (tgt := 29) hx hb dX9_isUsed_25 (by decide) ?_
          refine lv_istore_n (lv' := [(2, .int 1), (0, .ref (am 28)), (1, .int x), (3, .int (nI i))]) hx hb dX9_isUsed_29 rfl hl (by decide) rfl (fun ls hl => ?_)
          refine lv_iinc (v := nI (i + 1)) (lv' := [(3, .int (nI (i + 1))), (2, .int 1), (0, .ref (am 28)), (1, .int x)]) hx hb dX9_isUsed_30 hl (k := 3) rfl (nI_1 i) (by decide) rfl (fun ls hl => ?_)
          refine lv_goto (tgt := 4) hx hb dX9_isUsed_33 (by decide) ?_
          have e9 : 1 = bz (us1 M x (i + 1)) := by rw [show us1 M x (i + 1) = true by simp [us1, c11_2]]; rfl
          rw [e9] at hl
          exact ih (i + 1) (by omega) ls (lv_sub hl [2, 3, 1, 0] rfl)
        · refine lv_aload_n hx hb dX9_isUsed_14 rfl (lv_at hl 0 rfl) ?_
          refine fw_get (v := .ref (am 2)) X gC_ok hF hM.2.1 rfl 2 (by decide) wm_481 rfl dX9_isUsed_15 ?_
          refine lv_iload_n hx hb dX9_isUsed_18 rfl (lv_at hl 3 rfl) ?_
          refine fw_iald X hF (hM.2.2 2 (Or.inl (by decide))) 0 rfl (show vp_in (nI i) 8 from vp_in_nI (by omega) (by decide)) (v := (M 2) i) (by rw [nI_clamp (by omega)] <;> rfl) dX9_isUsed_19 ?_
          refine lv_iload_n hx hb dX9_isUsed_20 rfl (lv_at hl 1 rfl) ?_
          refine lv_icmp_ne (tgt := 28) hx hb dX9_isUsed_21 (by decide) (fun c21_3 => ?_) (fun c21_3 => ?_)
          · refine lv_iconst (v := 0) hx hb dX9_isUsed_28 (by decide) ?_
            refine lv_istore_n (lv' := [(2, .int 0), (0, .ref (am 28)), (1, .int x), (3, .int (nI i))]) hx hb dX9_isUsed_29 rfl hl (by decide) rfl (fun ls hl => ?_)
            refine lv_iinc (v := nI (i + 1)) (lv' := [(3, .int (nI (i + 1))), (2, .int 0), (0, .ref (am 28)), (1, .int x)]) hx hb dX9_isUsed_30 hl (k := 3) rfl (nI_1 i) (by decide) rfl (fun ls hl => ?_)
            refine lv_goto (tgt := 4) hx hb dX9_isUsed_33 (by decide) ?_
            have e9 : 0 = bz (us1 M x (i + 1)) := by rw [show us1 M x (i + 1) = false by simp [us1, c11_2, c21_3]]; rfl
            rw [e9] at hl
            exact ih (i + 1) (by omega) ls (lv_sub hl [2, 3, 1, 0] rfl)
          · refine lv_iconst (v := 1) hx hb dX9_isUsed_24 (by decide) ?_
            refine lv_goto (tgt := 29) hx hb dX9_isUsed_25 (by decide) ?_
            refine lv_istore_n (lv' := [(2, .int 1), (0, .ref (am 28)), (1, .int x), (3, .int (nI i))]) hx hb dX9_isUsed_29 rfl hl (by decide) rfl (fun ls hl => ?_)
            refine lv_iinc (v := nI (i + 1)) (lv' := [(3, .int (nI (i + 1))), (2, .int 1), (0, .ref (am 28)), (1, .int x)]) hx hb dX9_isUsed_30 hl (k := 3) rfl (nI_1 i) (by decide) rfl (fun ls hl => ?_)
            refine lv_goto (tgt := 4) hx hb dX9_isUsed_33 (by decide) ?_
            have e9 : 1 = bz (us1 M x (i + 1)) := by rw [show us1 M x (i + 1) = true by simp [us1, c11_2, c21_3]]; rfl
            rw [e9] at hl
            exact ih (i + 1) (by omega) ls (lv_sub hl [2, 3, 1, 0] rfl)
  have hl : lv_has ls 4 [(0, .ref (am 28)), (1, .int x)] := hl
  refine lv_iconst (v := 0) hx hb dX9_isUsed_0 (by decide) ?_
  refine lv_istore_n (lv' := [(2, .int 0), (0, .ref (am 28)), (1, .int x)]) hx hb dX9_isUsed_1 rfl hl (by decide) rfl (fun ls hl => ?_)
  refine lv_iconst (v := 0) hx hb dX9_isUsed_2 (by decide) ?_
  refine lv_istore_n (lv' := [(3, .int 0), (2, .int 0), (0, .ref (am 28)), (1, .int x)]) hx hb dX9_isUsed_3 rfl hl (by decide) rfl (fun ls hl => ?_)
  exact loop1 8 0 (by omega) ls (lv_sub hl [2, 3, 1, 0] rfl)
set_option maxHeartbeats 4000000 in
set_option maxRecDepth 100000 in
theorem c_X9_newWheel (l : Launch) (D : va_G) (cs : Nat → ClassId) (w : fW) (sz : Nat) (am : Nat → Nat) (M : Nat → Nat → Int32) (R : aRe) (wy an : Int32) (hM : MWd cs am (M, R, wy, an) w) (k : Int32) (hex : ∃ n, n < 100 ∧ mUsed M (nI n) = false) : gM l bs_B nw_B D cls10 (tyl cs) yX9_newWheel cX9_newWheel 3 (some .int) 1 23 0 0 w sz [.ref (am 28), .int k] (fun v w' => ∃ n, n < 100 ∧ mUsed M (nI n) = false ∧ v = some (.int (nI n)) ∧ MWd cs am (va_up (va_up (va_up M 7 (upd (M 7) n (bz (whN k).2.1))) 5 (upd (M 5) n (whN k).1)) 6 (upd (M 6) n 0), R, wy, an) w') := by
  refine gM.of (by decide +kernel) (Nat.le_of_ble_eq_true rfl) (fun p e s m below meth c A ls X hsz hnm hF hS hl => ?_)
  have hx := X.1
  have hb := X.2.1
  obtain ⟨n, ⟨hn, hun⟩, hmin⟩ := pk_least (fun n => n < 100 ∧ mUsed M (nI n) = false) hex
  have loop : ∀ (n9 i : Nat), i + n9 = n → ∀ (w : fW) (H : Heap) (locs : List Loc) (ls : Array Slot), MWd cs am (M, R, wy, an) w → fw_P D cls10 A w H → va_S A s.heap H locs → lv_has ls 3 [(0, .ref (am 28)), (1, .int k), (2, .int (nI i))] → W p l e ({ frames := 1, cells := 0, slots := 0, locals := 23 } : Room) s m ([.ref (am 28), .int k] : List Value).toArray below meth c H locs 0 0 (MQ below (gQ D cls10 A (fun v w' => ∃ n, n < 100 ∧ mUsed M (nI n) = false ∧ v = some (.int (nI n)) ∧ MWd cs am (va_up (va_up (va_up M 7 (upd (M 7) n (bz (whN k).2.1))) 5 (upd (M 5) n (whN k).1)) 6 (upd (M 6) n 0), R, wy, an) w')) ([.ref (am 28), .int k] : List Value).toArray s 0 0 A) (F0 m 2 ls [])  := by
    intro n9
    induction n9 with
    | zero =>
      intro i hi w H locs ls hM hF hS hl
      refine lv_aload_n hx hb dX9_newWheel_2 rfl (lv_at hl 0 rfl) ?_
      refine lv_iload_n hx hb dX9_newWheel_3 rfl (lv_at hl 2 rfl) ?_
      refine fw_callV (As := [.int (nI i)]) (rest := []) X bs_all nw_all mf_X9_isUsed (c_X9_isUsed l D cs _ _ am M R wy an hM (nI i)) wm_602 wm_604 wm_13 hF hS rfl hM.2.1 rfl rfl ((⟨⟨Nat.le_of_ble_eq_true rfl, Nat.le_of_ble_eq_true rfl⟩, Nat.le_of_ble_eq_true rfl, Nat.le_of_ble_eq_true rfl⟩)) rfl hl.1 rfl (Nat.le_of_ble_eq_true rfl) dX9_newWheel_4 (fun v u1 H locs hp hF hS hz1 hk1 hd1 => ?_)
      obtain ⟨hv1, hM⟩ := hp
      subst hv1
      refine W.eq (g2 := F0 m 7 ls [.int (bz (mUsed M (nI i)))]) rfl ?_
      refine gx_ifeq (tgt := 16) hx hb dX9_newWheel_7 (by decide) (fun c7_2 => ?_) (fun c7_2 => ?_)
      · have ein : i = n := by omega
        subst ein
        refine lv_aload_n hx hb dX9_newWheel_16 rfl (lv_at hl 0 rfl) ?_
        refine fw_get (v := .ref (am 7)) X gC_ok hF hM.2.1 rfl 7 (by decide) wm_486 rfl dX9_newWheel_17 ?_
        refine lv_iload_n hx hb dX9_newWheel_20 rfl (lv_at hl 2 rfl) ?_
        refine lv_iload_n hx hb dX9_newWheel_21 rfl (lv_at hl 1 rfl) ?_
        refine lv_bipush (v := 100) hx hb dX9_newWheel_22 (by decide) ?_
        refine lv_icmp_lt (tgt := 31) hx hb dX9_newWheel_24 (by decide) (fun c24_3 => ?_) (fun c24_3 => ?_)
        · refine lv_iconst (v := 0) hx hb dX9_newWheel_31 (by decide) ?_
          refine fw_zast X hF hS (hM.2.2 7 (Or.inl (by decide))) 1 rfl (show vp_in (nI i) 100 from vp_in_nI (by omega) (by decide)) (v := 0) rfl dX9_newWheel_32 (fun H locs hF hS => ?_)
          rw [show (nI i).toNatClampNeg = i from nI_clamp (by omega)] at hF
          obtain ⟨u4, hu4⟩ : ∃ y : fW, y = va_up u1 (am 7) (some (.inl (cs 1, 100, .inl (upd (M 7) i 0)))) := ⟨_, rfl⟩
          have hM := hM.set 7 (Or.inl (by decide)) (upd (M 7) i 0)
          have hF : fw_P D cls10 A u4 H := by rw [hu4]; exact hF
          have hM : MWd cs am (va_up M 7 (upd (M 7) i 0), R, wy, an) u4 := by rw [hu4]; exact hM
          refine lv_aload_n hx hb dX9_newWheel_33 rfl (lv_at hl 0 rfl) ?_
          refine fw_get (v := .ref (am 5)) X gC_ok hF hM.2.1 rfl 5 (by decide) wm_484 rfl dX9_newWheel_34 ?_
          refine lv_iload_n hx hb dX9_newWheel_37 rfl (lv_at hl 2 rfl) ?_
          refine lv_iload_n hx hb dX9_newWheel_38 rfl (lv_at hl 1 rfl) ?_
          refine lv_bipush (v := 100) hx hb dX9_newWheel_39 (by decide) ?_
          refine lv_icmp_lt (tgt := 51) hx hb dX9_newWheel_41 (by decide) (fun c41_5 => ?_) (fun c41_5 => ?_)
          · refine lv_iload_n hx hb dX9_newWheel_51 rfl (lv_at hl 1 rfl) ?_
            refine fw_iast X hF hS (hM.2.2 5 (Or.inl (by decide))) 0 rfl (show vp_in (nI i) 100 from vp_in_nI (by omega) (by decide)) dX9_newWheel_52 (fun H locs hF hS => ?_)
            rw [show (nI i).toNatClampNeg = i from nI_clamp (by omega)] at hF
            obtain ⟨u6, hu6⟩ : ∃ y : fW, y = va_up u4 (am 5) (some (.inl (cs 0, 100, .inl (upd (M 5) i k)))) := ⟨_, rfl⟩
            have hM := hM.set 5 (Or.inl (by decide)) (upd (M 5) i k)
            have hF : fw_P D cls10 A u6 H := by rw [hu6]; exact hF
            have hM : MWd cs am (va_up (va_up M 7 (upd (M 7) i 0)) 5 (upd (M 5) i k), R, wy, an) u6 := by rw [hu6]; exact hM
            refine lv_aload_n hx hb dX9_newWheel_53 rfl (lv_at hl 0 rfl) ?_
            refine fw_get (v := .ref (am 6)) X gC_ok hF hM.2.1 rfl 6 (by decide) wm_485 rfl dX9_newWheel_54 ?_
            refine lv_iload_n hx hb dX9_newWheel_57 rfl (lv_at hl 2 rfl) ?_
            refine lv_iconst (v := 0) hx hb dX9_newWheel_58 (by decide) ?_
            refine fw_iast X hF hS (hM.2.2 6 (Or.inl (by decide))) 0 rfl (show vp_in (nI i) 100 from vp_in_nI (by omega) (by decide)) dX9_newWheel_59 (fun H locs hF hS => ?_)
            rw [show (nI i).toNatClampNeg = i from nI_clamp (by omega)] at hF
            obtain ⟨u7, hu7⟩ : ∃ y : fW, y = va_up u6 (am 6) (some (.inl (cs 0, 100, .inl (upd (M 6) i 0)))) := ⟨_, rfl⟩
            have hM := hM.set 6 (Or.inl (by decide)) (upd (M 6) i 0)
            have hF : fw_P D cls10 A u7 H := by rw [hu7]; exact hF
            have hM : MWd cs am (va_up (va_up (va_up M 7 (upd (M 7) i 0)) 5 (upd (M 5) i k)) 6 (upd (M 6) i 0), R, wy, an) u7 := by rw [hu7]; exact hM
            refine lv_iload_n hx hb dX9_newWheel_60 rfl (lv_at hl 2 rfl) ?_
            refine fw_iret X hF hS ?_ (Nat.le_of_ble_eq_true rfl) (Nat.le_of_ble_eq_true rfl) dX9_newWheel_61
            refine ⟨i, hn, hun, rfl, ?_⟩
            first | (simpa [whN, bz, c24_3, c41_5] using hM) | exact absurd c24_3 c41_5 | exact absurd c41_5 c24_3
          · refine lv_iload_n hx hb dX9_newWheel_44 rfl (lv_at hl 1 rfl) ?_
            refine lv_bipush (v := 100) hx hb dX9_newWheel_45 (by decide) ?_
            refine lv_isub hx hb dX9_newWheel_47 ?_
            refine lv_goto (tgt := 52) hx hb dX9_newWheel_48 (by decide) ?_
            refine fw_iast X hF hS (hM.2.2 5 (Or.inl (by decide))) 0 rfl (show vp_in (nI i) 100 from vp_in_nI (by omega) (by decide)) dX9_newWheel_52 (fun H locs hF hS => ?_)
            rw [show (nI i).toNatClampNeg = i from nI_clamp (by omega)] at hF
            obtain ⟨u8, hu8⟩ : ∃ y : fW, y = va_up u4 (am 5) (some (.inl (cs 0, 100, .inl (upd (M 5) i (k - 100))))) := ⟨_, rfl⟩
            have hM := hM.set 5 (Or.inl (by decide)) (upd (M 5) i (k - 100))
            have hF : fw_P D cls10 A u8 H := by rw [hu8]; exact hF
            have hM : MWd cs am (va_up (va_up M 7 (upd (M 7) i 0)) 5 (upd (M 5) i (k - 100)), R, wy, an) u8 := by rw [hu8]; exact hM
            refine lv_aload_n hx hb dX9_newWheel_53 rfl (lv_at hl 0 rfl) ?_
            refine fw_get (v := .ref (am 6)) X gC_ok hF hM.2.1 rfl 6 (by decide) wm_485 rfl dX9_newWheel_54 ?_
            refine lv_iload_n hx hb dX9_newWheel_57 rfl (lv_at hl 2 rfl) ?_
            refine lv_iconst (v := 0) hx hb dX9_newWheel_58 (by decide) ?_
            refine fw_iast X hF hS (hM.2.2 6 (Or.inl (by decide))) 0 rfl (show vp_in (nI i) 100 from vp_in_nI (by omega) (by decide)) dX9_newWheel_59 (fun H locs hF hS => ?_)
            rw [show (nI i).toNatClampNeg = i from nI_clamp (by omega)] at hF
            obtain ⟨u9, hu9⟩ : ∃ y : fW, y = va_up u8 (am 6) (some (.inl (cs 0, 100, .inl (upd (M 6) i 0)))) := ⟨_, rfl⟩
            have hM := hM.set 6 (Or.inl (by decide)) (upd (M 6) i 0)
            have hF : fw_P D cls10 A u9 H := by rw [hu9]; exact hF
            have hM : MWd cs am (va_up (va_up (va_up M 7 (upd (M 7) i 0)) 5 (upd (M 5) i (k - 100))) 6 (upd (M 6) i 0), R, wy, an) u9 := by rw [hu9]; exact hM
            refine lv_iload_n hx hb dX9_newWheel_60 rfl (lv_at hl 2 rfl) ?_
            refine fw_iret X hF hS ?_ (Nat.le_of_ble_eq_true rfl) (Nat.le_of_ble_eq_true rfl) dX9_newWheel_61
            refine ⟨i, hn, hun, rfl, ?_⟩
            first | (simpa [whN, bz, c24_3, c41_5] using hM) | exact absurd c24_3 c41_5 | exact absurd c41_5 c24_3
        · refine lv_iconst (v := 1) hx hb dX9_newWheel_27 (by decide) ?_
          refine lv_goto (tgt := 32) hx hb dX9_newWheel_28 (by decide) ?_
          refine fw_zast X hF hS (hM.2.2 7 (Or.inl (by decide))) 1 rfl (show vp_in (nI i) 100 from vp_in_nI (by omega) (by decide)) (v := 1) rfl dX9_newWheel_32 (fun H locs hF hS => ?_)
          rw [show (nI i).toNatClampNeg = i from nI_clamp (by omega)] at hF
          obtain ⟨u10, hu10⟩ : ∃ y : fW, y = va_up u1 (am 7) (some (.inl (cs 1, 100, .inl (upd (M 7) i 1)))) := ⟨_, rfl⟩
          have hM := hM.set 7 (Or.inl (by decide)) (upd (M 7) i 1)
          have hF : fw_P D cls10 A u10 H := by rw [hu10]; exact hF
          have hM : MWd cs am (va_up M 7 (upd (M 7) i 1), R, wy, an) u10 := by rw [hu10]; exact hM
          refine lv_aload_n hx hb dX9_newWheel_33 rfl (lv_at hl 0 rfl) ?_
          refine fw_get (v := .ref (am 5)) X gC_ok hF hM.2.1 rfl 5 (by decide) wm_484 rfl dX9_newWheel_34 ?_
          refine lv_iload_n hx hb dX9_newWheel_37 rfl (lv_at hl 2 rfl) ?_
          refine lv_iload_n hx hb dX9_newWheel_38 rfl (lv_at hl 1 rfl) ?_
          refine lv_bipush (v := 100) hx hb dX9_newWheel_39 (by decide) ?_
          refine lv_icmp_lt (tgt := 51) hx hb dX9_newWheel_41 (by decide) (fun c41_11 => ?_) (fun c41_11 => ?_)
          · refine lv_iload_n hx hb dX9_newWheel_51 rfl (lv_at hl 1 rfl) ?_
            refine fw_iast X hF hS (hM.2.2 5 (Or.inl (by decide))) 0 rfl (show vp_in (nI i) 100 from vp_in_nI (by omega) (by decide)) dX9_newWheel_52 (fun H locs hF hS => ?_)
            rw [show (nI i).toNatClampNeg = i from nI_clamp (by omega)] at hF
            obtain ⟨u12, hu12⟩ : ∃ y : fW, y = va_up u10 (am 5) (some (.inl (cs 0, 100, .inl (upd (M 5) i k)))) := ⟨_, rfl⟩
            have hM := hM.set 5 (Or.inl (by decide)) (upd (M 5) i k)
            have hF : fw_P D cls10 A u12 H := by rw [hu12]; exact hF
            have hM : MWd cs am (va_up (va_up M 7 (upd (M 7) i 1)) 5 (upd (M 5) i k), R, wy, an) u12 := by rw [hu12]; exact hM
            refine lv_aload_n hx hb dX9_newWheel_53 rfl (lv_at hl 0 rfl) ?_
            refine fw_get (v := .ref (am 6)) X gC_ok hF hM.2.1 rfl 6 (by decide) wm_485 rfl dX9_newWheel_54 ?_
            refine lv_iload_n hx hb dX9_newWheel_57 rfl (lv_at hl 2 rfl) ?_
            refine lv_iconst (v := 0) hx hb dX9_newWheel_58 (by decide) ?_
            refine fw_iast X hF hS (hM.2.2 6 (Or.inl (by decide))) 0 rfl (show vp_in (nI i) 100 from vp_in_nI (by omega) (by decide)) dX9_newWheel_59 (fun H locs hF hS => ?_)
            rw [show (nI i).toNatClampNeg = i from nI_clamp (by omega)] at hF
            obtain ⟨u13, hu13⟩ : ∃ y : fW, y = va_up u12 (am 6) (some (.inl (cs 0, 100, .inl (upd (M 6) i 0)))) := ⟨_, rfl⟩
            have hM := hM.set 6 (Or.inl (by decide)) (upd (M 6) i 0)
            have hF : fw_P D cls10 A u13 H := by rw [hu13]; exact hF
            have hM : MWd cs am (va_up (va_up (va_up M 7 (upd (M 7) i 1)) 5 (upd (M 5) i k)) 6 (upd (M 6) i 0), R, wy, an) u13 := by rw [hu13]; exact hM
            refine lv_iload_n hx hb dX9_newWheel_60 rfl (lv_at hl 2 rfl) ?_
            refine fw_iret X hF hS ?_ (Nat.le_of_ble_eq_true rfl) (Nat.le_of_ble_eq_true rfl) dX9_newWheel_61
            refine ⟨i, hn, hun, rfl, ?_⟩
            first | (simpa [whN, bz, c24_3, c41_11] using hM) | exact absurd c24_3 c41_11 | exact absurd c41_11 c24_3
          · refine lv_iload_n hx hb dX9_newWheel_44 rfl (lv_at hl 1 rfl) ?_
            refine lv_bipush (v := 100) hx hb dX9_newWheel_45 (by decide) ?_
            refine lv_isub hx hb dX9_newWheel_47 ?_
            refine lv_goto (tgt := 52) hx hb dX9_newWheel_48 (by decide) ?_
            refine fw_iast X hF hS (hM.2.2 5 (Or.inl (by decide))) 0 rfl (show vp_in (nI i) 100 from vp_in_nI (by omega) (by decide)) dX9_newWheel_52 (fun H locs hF hS => ?_)
            rw [show (nI i).toNatClampNeg = i from nI_clamp (by omega)] at hF
            obtain ⟨u14, hu14⟩ : ∃ y : fW, y = va_up u10 (am 5) (some (.inl (cs 0, 100, .inl (upd (M 5) i (k - 100))))) := ⟨_, rfl⟩
            have hM := hM.set 5 (Or.inl (by decide)) (upd (M 5) i (k - 100))
            have hF : fw_P D cls10 A u14 H := by rw [hu14]; exact hF
            have hM : MWd cs am (va_up (va_up M 7 (upd (M 7) i 1)) 5 (upd (M 5) i (k - 100)), R, wy, an) u14 := by rw [hu14]; exact hM
            refine lv_aload_n hx hb dX9_newWheel_53 rfl (lv_at hl 0 rfl) ?_
            refine fw_get (v := .ref (am 6)) X gC_ok hF hM.2.1 rfl 6 (by decide) wm_485 rfl dX9_newWheel_54 ?_
            refine lv_iload_n hx hb dX9_newWheel_57 rfl (lv_at hl 2 rfl) ?_
            refine lv_iconst (v := 0) hx hb dX9_newWheel_58 (by decide) ?_
            refine fw_iast X hF hS (hM.2.2 6 (Or.inl (by decide))) 0 rfl (show vp_in (nI i) 100 from vp_in_nI (by omega) (by decide)) dX9_newWheel_59 (fun H locs hF hS => ?_)
            rw [show (nI i).toNatClampNeg = i from nI_clamp (by omega)] at hF
            obtain ⟨u15, hu15⟩ : ∃ y : fW, y = va_up u14 (am 6) (some (.inl (cs 0, 100, .inl (upd (M 6) i 0)))) := ⟨_, rfl⟩
            have hM := hM.set 6 (Or.inl (by decide)) (upd (M 6) i 0)
            have hF : fw_P D cls10 A u15 H := by rw [hu15]; exact hF
            have hM : MWd cs am (va_up (va_up (va_up M 7 (upd (M 7) i 1)) 5 (upd (M 5) i (k - 100))) 6 (upd (M 6) i 0), R, wy, an) u15 := by rw [hu15]; exact hM
            refine lv_iload_n hx hb dX9_newWheel_60 rfl (lv_at hl 2 rfl) ?_
            refine fw_iret X hF hS ?_ (Nat.le_of_ble_eq_true rfl) (Nat.le_of_ble_eq_true rfl) dX9_newWheel_61
            refine ⟨i, hn, hun, rfl, ?_⟩
            first | (simpa [whN, bz, c24_3, c41_11] using hM) | exact absurd c24_3 c41_11 | exact absurd c41_11 c24_3
      · rw [show i = n by omega, hun] at c7_2
        cases c7_2
    | succ n9 ih =>
      intro i hi w H locs ls hM hF hS hl
      refine lv_aload_n hx hb dX9_newWheel_2 rfl (lv_at hl 0 rfl) ?_
      refine lv_iload_n hx hb dX9_newWheel_3 rfl (lv_at hl 2 rfl) ?_
      refine fw_callV (As := [.int (nI i)]) (rest := []) X bs_all nw_all mf_X9_isUsed (c_X9_isUsed l D cs _ _ am M R wy an hM (nI i)) wm_602 wm_604 wm_13 hF hS rfl hM.2.1 rfl rfl ((⟨⟨Nat.le_of_ble_eq_true rfl, Nat.le_of_ble_eq_true rfl⟩, Nat.le_of_ble_eq_true rfl, Nat.le_of_ble_eq_true rfl⟩)) rfl hl.1 rfl (Nat.le_of_ble_eq_true rfl) dX9_newWheel_4 (fun v u1 H locs hp hF hS hz1 hk1 hd1 => ?_)
      obtain ⟨hv1, hM⟩ := hp
      subst hv1
      refine W.eq (g2 := F0 m 7 ls [.int (bz (mUsed M (nI i)))]) rfl ?_
      refine gx_ifeq (tgt := 16) hx hb dX9_newWheel_7 (by decide) (fun c7_2 => ?_) (fun c7_2 => ?_)
      · exact absurd ⟨by omega, c7_2⟩ (hmin i (by omega))
      · refine lv_iinc (v := nI (i + 1)) (lv' := [(2, .int (nI (i + 1))), (0, .ref (am 28)), (1, .int k)]) hx hb dX9_newWheel_10 hl (k := 2) rfl (nI_1 i) (by decide) rfl (fun ls hl => ?_)
        refine lv_goto (tgt := 2) hx hb dX9_newWheel_13 (by decide) ?_
        exact ih (i + 1) (by omega) _ H locs ls hM hF hS (lv_sub hl [1, 2, 0] rfl)
  have hl : lv_has ls 3 [(0, .ref (am 28)), (1, .int k)] := hl
  refine lv_iconst (v := 0) hx hb dX9_newWheel_0 (by decide) ?_
  refine lv_istore_n (lv' := [(2, .int 0), (0, .ref (am 28)), (1, .int k)]) hx hb dX9_newWheel_1 rfl hl (by decide) rfl (fun ls hl => ?_)
  exact loop n 0 (by omega) _ _ _ ls hM hF hS (lv_sub hl [1, 2, 0] rfl)
set_option maxHeartbeats 4000000 in
set_option maxRecDepth 100000 in
theorem c_X9_fit (l : Launch) (D : va_G) (cs : Nat → ClassId) (w : fW) (sz : Nat) (am : Nat → Nat) (M : Nat → Nat → Int32) (R : aRe) (wy an : Int32) (hM : MWd cs am (M, R, wy, an) w) (a : Nat) (b k : Int32) (ha : a < 4) (hex : ¬ M 0 a = 0 → ∃ n, n < 100 ∧ mUsed (va_up M 2 (upd (M 2) (2 * a + sb b) (-1))) (nI n) = false) : gM l bs_B nw_B D cls10 (tyl cs) yX9_fit cX9_fit 5 none 2 45 0 0 w sz [.ref (am 28), .int (nI a), .int b, .int k] (fun v w' => (M 0 a = 0 ∧ v = none ∧ MWd cs am (M, R, 1, 0) w') ∨ (¬ M 0 a = 0 ∧ k = 0 ∧ v = none ∧ MWd cs am (va_up M 2 (upd (upd (M 2) (2 * a + sb b) (-1)) (2 * a + sb b) (-1)), R, wy, k) w') ∨ (¬ M 0 a = 0 ∧ ¬ k = 0 ∧ ∃ n, n < 100 ∧ mUsed (va_up M 2 (upd (M 2) (2 * a + sb b) (-1))) (nI n) = false ∧ v = none ∧ MWd cs am (va_up (va_up (va_up (va_up (va_up M 2 (upd (M 2) (2 * a + sb b) (-1))) 7 (upd (M 7) n (bz (whN k).2.1))) 5 (upd (M 5) n (whN k).1)) 6 (upd (M 6) n 0)) 2 (upd (upd (M 2) (2 * a + sb b) (-1)) (2 * a + sb b) (nI n)), R, wy, k) w')) := by
  refine gM.of (by decide +kernel) (Nat.le_of_ble_eq_true rfl) (fun p e s m below meth c A ls X hsz hnm hF hS hl => ?_)
  have hx := X.1
  have hb := X.2.1
  have hl : lv_has ls 5 [(0, .ref (am 28)), (1, .int (nI a)), (2, .int b), (3, .int k)] := hl
  have hsb := sb_lt b
  refine lv_aload_n hx hb dX9_fit_0 rfl (lv_at hl 0 rfl) ?_
  refine fw_get (v := .ref (am 0)) X gC_ok hF hM.2.1 rfl 0 (by decide) wm_479 rfl dX9_fit_1 ?_
  refine lv_iload_n hx hb dX9_fit_4 rfl (lv_at hl 1 rfl) ?_
  refine fw_zald X hF (hM.2.2 0 (Or.inl (by decide))) 1 rfl (show vp_in (nI a) 4 from vp_in_nI (by omega) (by decide)) (v := (M 0) a) (by rw [nI_clamp (by omega)] <;> rfl) dX9_fit_5 ?_
  refine lv_if_ne (tgt := 15) hx hb dX9_fit_6 (by decide) (fun c6_1 => ?_) (fun c6_1 => ?_)
  · refine lv_iconst (v := 2) hx hb dX9_fit_15 (by decide) ?_
    refine lv_iload_n hx hb dX9_fit_16 rfl (lv_at hl 1 rfl) ?_
    refine lv_imul hx hb dX9_fit_17 ?_
    refine lv_iload_n hx hb dX9_fit_18 rfl (lv_at hl 2 rfl) ?_
    refine lv_iconst (v := 1) hx hb dX9_fit_19 (by decide) ?_
    refine lv_iand hx hb dX9_fit_20 ?_
    refine lv_iadd hx hb dX9_fit_21 ?_
    refine lv_istore (lv' := [(4, .int ((2 * (nI a)) + (b &&& 1))), (0, .ref (am 28)), (1, .int (nI a)), (2, .int b), (3, .int k)]) hx hb dX9_fit_22 hl (by decide) rfl (fun ls hl => ?_)
    refine lv_aload_n hx hb dX9_fit_24 rfl (lv_at hl 1 rfl) ?_
    refine fw_get (v := .ref (am 2)) X gC_ok hF hM.2.1 rfl 2 (by decide) wm_481 rfl dX9_fit_25 ?_
    refine lv_iload hx hb dX9_fit_28 (lv_at hl 0 rfl) ?_
    refine lv_iconst (v := (-1)) hx hb dX9_fit_30 (by decide) ?_
    refine fw_iast X hF hS (hM.2.2 2 (Or.inl (by decide))) 0 rfl (show vp_in ((2 * (nI a)) + (b &&& 1)) 8 by rw [(show (2 * (nI a)) + (b &&& 1) = nI (2 * a + sb b) by simp only [and_sb, and_sb1, nl1, nl2, nl3, nl4, nl5, nl16, nl20, nl400, pk_mul, nI_add])]; exact vp_in_nI (by omega) (by decide)) dX9_fit_31 (fun H locs hF hS => ?_)
    rw [show ((2 * (nI a)) + (b &&& 1)).toNatClampNeg = 2 * a + sb b by rw [(show (2 * (nI a)) + (b &&& 1) = nI (2 * a + sb b) by simp only [and_sb, and_sb1, nl1, nl2, nl3, nl4, nl5, nl16, nl20, nl400, pk_mul, nI_add])]; exact nI_clamp (by omega)] at hF
    obtain ⟨u2, hu2⟩ : ∃ y : fW, y = va_up w (am 2) (some (.inl (cs 0, 8, .inl (upd (M 2) (2 * a + sb b) (-1))))) := ⟨_, rfl⟩
    have hM := hM.set 2 (Or.inl (by decide)) (upd (M 2) (2 * a + sb b) (-1))
    have hF : fw_P D cls10 A u2 H := by rw [hu2]; exact hF
    have hM : MWd cs am (va_up M 2 (upd (M 2) (2 * a + sb b) (-1)), R, wy, an) u2 := by rw [hu2]; exact hM
    refine lv_aload_n hx hb dX9_fit_32 rfl (lv_at hl 1 rfl) ?_
    refine fw_get (v := .ref (am 2)) X gC_ok hF hM.2.1 rfl 2 (by decide) wm_481 rfl dX9_fit_33 ?_
    refine lv_iload hx hb dX9_fit_36 (lv_at hl 0 rfl) ?_
    refine lv_iload_n hx hb dX9_fit_38 rfl (lv_at hl 4 rfl) ?_
    refine lv_if_ne (tgt := 46) hx hb dX9_fit_39 (by decide) (fun c39_3 => ?_) (fun c39_3 => ?_)
    · refine lv_aload_n hx hb dX9_fit_46 rfl (lv_at hl 1 rfl) ?_
      refine lv_iload_n hx hb dX9_fit_47 rfl (lv_at hl 4 rfl) ?_
      refine fw_callV (As := [.int k]) (rest := [.int ((2 * (nI a)) + (b &&& 1)), .ref (am 2)]) X bs_all nw_all mf_X9_newWheel (c_X9_newWheel l D cs _ _ am (va_up M 2 (upd (M 2) (2 * a + sb b) (-1))) R wy an hM k (hex c6_1)) wm_598 wm_600 wm_12 hF hS rfl hM.2.1 rfl rfl ((⟨⟨Nat.le_of_ble_eq_true rfl, Nat.le_of_ble_eq_true rfl⟩, Nat.le_of_ble_eq_true rfl, Nat.le_of_ble_eq_true rfl⟩)) rfl hl.1 rfl (Nat.le_of_ble_eq_true rfl) dX9_fit_48 (fun v u4 H locs hp hF hS hz1 hk1 hd1 => ?_)
      obtain ⟨n, hn, hun, hv1, hM⟩ := hp
      subst hv1
      have hM : MWd cs am (va_up (va_up (va_up (va_up M 2 (upd (M 2) (2 * a + sb b) (-1))) 7 (upd (M 7) n (bz (whN k).2.1))) 5 (upd (M 5) n (whN k).1)) 6 (upd (M 6) n 0), R, wy, an) u4 := hM
      refine W.eq (g2 := F0 m 51 ls [.int (nI n), .int ((2 * (nI a)) + (b &&& 1)), .ref (am 2)]) rfl ?_
      refine fw_iast X hF hS (hM.2.2 2 (Or.inl (by decide))) 0 rfl (show vp_in ((2 * (nI a)) + (b &&& 1)) 8 by rw [(show (2 * (nI a)) + (b &&& 1) = nI (2 * a + sb b) by simp only [and_sb, and_sb1, nl1, nl2, nl3, nl4, nl5, nl16, nl20, nl400, pk_mul, nI_add])]; exact vp_in_nI (by omega) (by decide)) dX9_fit_51 (fun H locs hF hS => ?_)
      rw [show ((2 * (nI a)) + (b &&& 1)).toNatClampNeg = 2 * a + sb b by rw [(show (2 * (nI a)) + (b &&& 1) = nI (2 * a + sb b) by simp only [and_sb, and_sb1, nl1, nl2, nl3, nl4, nl5, nl16, nl20, nl400, pk_mul, nI_add])]; exact nI_clamp (by omega)] at hF
      obtain ⟨u5, hu5⟩ : ∃ y : fW, y = va_up u4 (am 2) (some (.inl (cs 0, 8, .inl (upd (upd (M 2) (2 * a + sb b) (-1)) (2 * a + sb b) (nI n))))) := ⟨_, rfl⟩
      have hM := hM.set 2 (Or.inl (by decide)) (upd (upd (M 2) (2 * a + sb b) (-1)) (2 * a + sb b) (nI n))
      have hF : fw_P D cls10 A u5 H := by rw [hu5]; exact hF
      have hM : MWd cs am (va_up (va_up (va_up (va_up (va_up M 2 (upd (M 2) (2 * a + sb b) (-1))) 7 (upd (M 7) n (bz (whN k).2.1))) 5 (upd (M 5) n (whN k).1)) 6 (upd (M 6) n 0)) 2 (upd (upd (M 2) (2 * a + sb b) (-1)) (2 * a + sb b) (nI n)), R, wy, an) u5 := by rw [hu5]; exact hM
      refine lv_aload_n hx hb dX9_fit_52 rfl (lv_at hl 1 rfl) ?_
      refine lv_iload_n hx hb dX9_fit_53 rfl (lv_at hl 4 rfl) ?_
      refine fw_put X gC_ok hF hS hM.2.1 rfl 27 (by decide) wm_506 rfl (tf := .int) (by decide +kernel) rfl rfl (Nat.le_of_ble_eq_true rfl) dX9_fit_54 (fun H locs hF hS => ?_)
      obtain ⟨u6, hu6⟩ : ∃ y : fW, y = va_up u5 (am 28) (some (mObj am (va_up (va_up (va_up (va_up (va_up M 2 (upd (M 2) (2 * a + sb b) (-1))) 7 (upd (M 7) n (bz (whN k).2.1))) 5 (upd (M 5) n (whN k).1)) 6 (upd (M 6) n 0)) 2 (upd (upd (M 2) (2 * a + sb b) (-1)) (2 * a + sb b) (nI n)), R, wy, k))) := ⟨_, rfl⟩
      have hM := hM.obj R wy k
      have hF : fw_P D cls10 A u6 H := by rw [hu6]; exact hF
      have hM : MWd cs am (va_up (va_up (va_up (va_up (va_up M 2 (upd (M 2) (2 * a + sb b) (-1))) 7 (upd (M 7) n (bz (whN k).2.1))) 5 (upd (M 5) n (whN k).1)) 6 (upd (M 6) n 0)) 2 (upd (upd (M 2) (2 * a + sb b) (-1)) (2 * a + sb b) (nI n)), R, wy, k) u6 := by rw [hu6]; exact hM
      refine fw_vret X hF hS ?_ (Nat.le_of_ble_eq_true rfl) (Nat.le_of_ble_eq_true rfl) dX9_fit_57
      exact Or.inr (Or.inr ⟨c6_1, c39_3, n, hn, hun, rfl, hM⟩)
    · refine lv_iconst (v := (-1)) hx hb dX9_fit_42 (by decide) ?_
      refine lv_goto (tgt := 51) hx hb dX9_fit_43 (by decide) ?_
      refine fw_iast X hF hS (hM.2.2 2 (Or.inl (by decide))) 0 rfl (show vp_in ((2 * (nI a)) + (b &&& 1)) 8 by rw [(show (2 * (nI a)) + (b &&& 1) = nI (2 * a + sb b) by simp only [and_sb, and_sb1, nl1, nl2, nl3, nl4, nl5, nl16, nl20, nl400, pk_mul, nI_add])]; exact vp_in_nI (by omega) (by decide)) dX9_fit_51 (fun H locs hF hS => ?_)
      rw [show ((2 * (nI a)) + (b &&& 1)).toNatClampNeg = 2 * a + sb b by rw [(show (2 * (nI a)) + (b &&& 1) = nI (2 * a + sb b) by simp only [and_sb, and_sb1, nl1, nl2, nl3, nl4, nl5, nl16, nl20, nl400, pk_mul, nI_add])]; exact nI_clamp (by omega)] at hF
      obtain ⟨u7, hu7⟩ : ∃ y : fW, y = va_up u2 (am 2) (some (.inl (cs 0, 8, .inl (upd (upd (M 2) (2 * a + sb b) (-1)) (2 * a + sb b) (-1))))) := ⟨_, rfl⟩
      have hM := hM.set 2 (Or.inl (by decide)) (upd (upd (M 2) (2 * a + sb b) (-1)) (2 * a + sb b) (-1))
      rw [uu] at hM
      have hF : fw_P D cls10 A u7 H := by rw [hu7]; exact hF
      have hM : MWd cs am (va_up M 2 (upd (upd (M 2) (2 * a + sb b) (-1)) (2 * a + sb b) (-1)), R, wy, an) u7 := by rw [hu7]; exact hM
      refine lv_aload_n hx hb dX9_fit_52 rfl (lv_at hl 1 rfl) ?_
      refine lv_iload_n hx hb dX9_fit_53 rfl (lv_at hl 4 rfl) ?_
      refine fw_put X gC_ok hF hS hM.2.1 rfl 27 (by decide) wm_506 rfl (tf := .int) (by decide +kernel) rfl rfl (Nat.le_of_ble_eq_true rfl) dX9_fit_54 (fun H locs hF hS => ?_)
      obtain ⟨u8, hu8⟩ : ∃ y : fW, y = va_up u7 (am 28) (some (mObj am (va_up M 2 (upd (upd (M 2) (2 * a + sb b) (-1)) (2 * a + sb b) (-1)), R, wy, k))) := ⟨_, rfl⟩
      have hM := hM.obj R wy k
      have hF : fw_P D cls10 A u8 H := by rw [hu8]; exact hF
      have hM : MWd cs am (va_up M 2 (upd (upd (M 2) (2 * a + sb b) (-1)) (2 * a + sb b) (-1)), R, wy, k) u8 := by rw [hu8]; exact hM
      refine fw_vret X hF hS ?_ (Nat.le_of_ble_eq_true rfl) (Nat.le_of_ble_eq_true rfl) dX9_fit_57
      exact Or.inr (Or.inl ⟨c6_1, c39_3, rfl, hM⟩)
  · refine lv_aload_n hx hb dX9_fit_9 rfl (lv_at hl 0 rfl) ?_
    refine lv_iconst (v := 1) hx hb dX9_fit_10 (by decide) ?_
    refine fw_callV (As := [.int 1]) (rest := []) X bs_all nw_all mf_X9_fails (c_X9_fails l D cs _ _ am M R wy an hM 1) wm_594 wm_596 wm_11 hF hS rfl hM.2.1 rfl rfl ((⟨⟨Nat.le_of_ble_eq_true rfl, Nat.le_of_ble_eq_true rfl⟩, Nat.le_of_ble_eq_true rfl, Nat.le_of_ble_eq_true rfl⟩)) rfl hl.1 rfl (Nat.le_of_ble_eq_true rfl) dX9_fit_11 (fun v u9 H locs hp hF hS hz1 hk1 hd1 => ?_)
    obtain ⟨hv1, hM⟩ := hp
    subst hv1
    have hM : MWd cs am (M, R, 1, 0) u9 := hM
    refine W.eq (g2 := F0 m 14 ls []) rfl ?_
    refine fw_vret X hF hS ?_ (Nat.le_of_ble_eq_true rfl) (Nat.le_of_ble_eq_true rfl) dX9_fit_14
    exact Or.inl ⟨c6_1, rfl, hM⟩
set_option maxHeartbeats 4000000 in
set_option maxRecDepth 100000 in
theorem c_X9_make (l : Launch) (D : va_G) (cs : Nat → ClassId) (w : fW) (sz : Nat) (am : Nat → Nat) (M : Nat → Nat → Int32) (R : aRe) (wy an : Int32) (hM : MWd cs am (M, R, wy, an) w) (k : Int32) (a : Nat) (b d : Int32) (ha : a < 4) : gM l bs_B nw_B D cls10 (tyl cs) yX9_make cX9_make 6 none 1 21 0 0 w sz [.ref (am 28), .int k, .int (nI a), .int b, .int d] (fun v w' => ((b < 0 ∨ (k = 9 ∧ d < 0)) ∧ v = none ∧ MWd cs am (M, R, 2, 0) w') ∨ (¬ (b < 0 ∨ (k = 9 ∧ d < 0)) ∧ k = 7 ∧ v = none ∧ MWd cs am (va_up (va_up M 8 (upd (M 8) a b)) 9 (fill (M 9) (20 * a) 20 0), R, wy, b) w') ∨ (¬ (b < 0 ∨ (k = 9 ∧ d < 0)) ∧ ¬ k = 7 ∧ k = 8 ∧ v = none ∧ MWd cs am (va_up (va_up (va_up M 10 (upd (M 10) a b)) 11 (upd (M 11) a (bz (decide (d &&& 1 = 1))))) 12 (fill (M 12) (20 * a) 20 (-1)), R, wy, b) w') ∨ (¬ (b < 0 ∨ (k = 9 ∧ d < 0)) ∧ ¬ k = 7 ∧ ¬ k = 8 ∧ v = none ∧ MWd cs am (va_up (va_up (va_up M 13 (upd (M 13) a b)) 14 (upd (M 14) a d)) 15 (fill (M 15) (400 * a) 400 0), R, wy, b) w')) := by
  refine gM.of (by decide +kernel) (Nat.le_of_ble_eq_true rfl) (fun p e s m below meth c A ls X hsz hnm hF hS hl => ?_)
  have hx := X.1
  have hb := X.2.1
  have loop7 : ∀ M9 : Nat → Nat → Int32, (∀ w' : fW, MWd cs am (va_up M9 9 (fill (M9 9) (20 * a) 20 0), R, wy, b) w' → (fun v w' => ((b < 0 ∨ (k = 9 ∧ d < 0)) ∧ v = none ∧ MWd cs am (M, R, 2, 0) w') ∨ (¬ (b < 0 ∨ (k = 9 ∧ d < 0)) ∧ k = 7 ∧ v = none ∧ MWd cs am (va_up (va_up M 8 (upd (M 8) a b)) 9 (fill (M 9) (20 * a) 20 0), R, wy, b) w') ∨ (¬ (b < 0 ∨ (k = 9 ∧ d < 0)) ∧ ¬ k = 7 ∧ k = 8 ∧ v = none ∧ MWd cs am (va_up (va_up (va_up M 10 (upd (M 10) a b)) 11 (upd (M 11) a (bz (decide (d &&& 1 = 1))))) 12 (fill (M 12) (20 * a) 20 (-1)), R, wy, b) w') ∨ (¬ (b < 0 ∨ (k = 9 ∧ d < 0)) ∧ ¬ k = 7 ∧ ¬ k = 8 ∧ v = none ∧ MWd cs am (va_up (va_up (va_up M 13 (upd (M 13) a b)) 14 (upd (M 14) a d)) 15 (fill (M 15) (400 * a) 400 0), R, wy, b) w') : Option Value → fW → Prop) none w') → ∀ (n9 i : Nat), i + n9 = 20 → ∀ (w : fW) (H : Heap) (locs : List Loc) (ls : Array Slot), MWd cs am (va_up M9 9 (fill (M9 9) (20 * a) i 0), R, wy, b) w → fw_P D cls10 A w H → va_S A s.heap H locs → lv_has ls 6 [(0, .ref (am 28)), (1, .int k), (2, .int (nI a)), (3, .int b), (4, .int d), (5, .int (nI i))] → W p l e ({ frames := 1, cells := 0, slots := 0, locals := 21 } : Room) s m ([.ref (am 28), .int k, .int (nI a), .int b, .int d] : List Value).toArray below meth c H locs 0 0 (MQ below (gQ D cls10 A (fun v w' => ((b < 0 ∨ (k = 9 ∧ d < 0)) ∧ v = none ∧ MWd cs am (M, R, 2, 0) w') ∨ (¬ (b < 0 ∨ (k = 9 ∧ d < 0)) ∧ k = 7 ∧ v = none ∧ MWd cs am (va_up (va_up M 8 (upd (M 8) a b)) 9 (fill (M 9) (20 * a) 20 0), R, wy, b) w') ∨ (¬ (b < 0 ∨ (k = 9 ∧ d < 0)) ∧ ¬ k = 7 ∧ k = 8 ∧ v = none ∧ MWd cs am (va_up (va_up (va_up M 10 (upd (M 10) a b)) 11 (upd (M 11) a (bz (decide (d &&& 1 = 1))))) 12 (fill (M 12) (20 * a) 20 (-1)), R, wy, b) w') ∨ (¬ (b < 0 ∨ (k = 9 ∧ d < 0)) ∧ ¬ k = 7 ∧ ¬ k = 8 ∧ v = none ∧ MWd cs am (va_up (va_up (va_up M 13 (upd (M 13) a b)) 14 (upd (M 14) a d)) 15 (fill (M 15) (400 * a) 400 0), R, wy, b) w'))) ([.ref (am 28), .int k, .int (nI a), .int b, .int d] : List Value).toArray s 0 0 A) (F0 m 42 ls [])  := by
    intro M9 hpost n9
    induction n9 with
    | zero =>
      intro i hi w H locs ls hM hF hS hl
      refine lv_iload hx hb dX9_make_42 (lv_at hl 5 rfl) ?_
      refine lv_bipush (v := 20) hx hb dX9_make_44 (by decide) ?_
      refine lv_icmp_ge (tgt := 68) hx hb dX9_make_46 (by decide) (fun c46_1 => ?_) (fun c46_1 => ?_)
      · refine lv_goto (tgt := 181) hx hb dX9_make_68 (by decide) ?_
        refine fw_vret X hF hS ?_ (Nat.le_of_ble_eq_true rfl) (Nat.le_of_ble_eq_true rfl) dX9_make_181
        rw [show i = 20 by omega] at hM
        exact hpost _ hM
      · exact absurd (show nI 20 ≤ nI i from nI_le (by omega) (by omega)) c46_1
    | succ n9 ih =>
      intro i hi w H locs ls hM hF hS hl
      refine lv_iload hx hb dX9_make_42 (lv_at hl 5 rfl) ?_
      refine lv_bipush (v := 20) hx hb dX9_make_44 (by decide) ?_
      refine lv_icmp_ge (tgt := 68) hx hb dX9_make_46 (by decide) (fun c46_1 => ?_) (fun c46_1 => ?_)
      · exact absurd (show nI 20 ≤ nI i from c46_1) (nI_ge (by omega) (by decide))
      · refine lv_aload_n hx hb dX9_make_49 rfl (lv_at hl 0 rfl) ?_
        refine fw_get (v := .ref (am 9)) X gC_ok hF hM.2.1 rfl 9 (by decide) wm_488 rfl dX9_make_50 ?_
        refine lv_bipush (v := 20) hx hb dX9_make_53 (by decide) ?_
        refine lv_iload_n hx hb dX9_make_55 rfl (lv_at hl 2 rfl) ?_
        refine lv_imul hx hb dX9_make_56 ?_
        refine lv_iload hx hb dX9_make_57 (lv_at hl 5 rfl) ?_
        refine lv_iadd hx hb dX9_make_59 ?_
        refine lv_iconst (v := 0) hx hb dX9_make_60 (by decide) ?_
        refine fw_iast X hF hS (hM.2.2 9 (Or.inl (by decide))) 0 rfl (show vp_in ((20 * (nI a)) + (nI i)) 80 by rw [(show (20 * (nI a)) + (nI i) = nI (20 * a + i) by simp only [and_sb, and_sb1, nl1, nl2, nl3, nl4, nl5, nl16, nl20, nl400, pk_mul, nI_add])]; exact vp_in_nI (by omega) (by decide)) dX9_make_61 (fun H locs hF hS => ?_)
        rw [show ((20 * (nI a)) + (nI i)).toNatClampNeg = 20 * a + i by rw [(show (20 * (nI a)) + (nI i) = nI (20 * a + i) by simp only [and_sb, and_sb1, nl1, nl2, nl3, nl4, nl5, nl16, nl20, nl400, pk_mul, nI_add])]; exact nI_clamp (by omega)] at hF
        obtain ⟨u2, hu2⟩ : ∃ y : fW, y = va_up w (am 9) (some (.inl (cs 0, 80, .inl (upd (fill (M9 9) (20 * a) i 0) (20 * a + i) 0)))) := ⟨_, rfl⟩
        have hM := hM.set 9 (Or.inl (by decide)) (upd (fill (M9 9) (20 * a) i 0) (20 * a + i) 0)
        rw [uu] at hM
        have hF : fw_P D cls10 A u2 H := by rw [hu2]; exact hF
        have hM : MWd cs am (va_up M9 9 (upd (fill (M9 9) (20 * a) i 0) (20 * a + i) 0), R, wy, b) u2 := by rw [hu2]; exact hM
        refine lv_iinc (v := nI (i + 1)) (lv' := [(5, .int (nI (i + 1))), (0, .ref (am 28)), (1, .int k), (2, .int (nI a)), (3, .int b), (4, .int d)]) hx hb dX9_make_62 hl (k := 5) rfl (nI_1 i) (by decide) rfl (fun ls hl => ?_)
        refine lv_goto (tgt := 42) hx hb dX9_make_65 (by decide) ?_
        rw [fill_s] at hM
        exact ih (i + 1) (by omega) _ H locs ls hM hF hS (lv_sub hl [1, 2, 3, 4, 5, 0] rfl)
  have loop8 : ∀ M9 : Nat → Nat → Int32, (∀ w' : fW, MWd cs am (va_up M9 12 (fill (M9 12) (20 * a) 20 (-1)), R, wy, b) w' → (fun v w' => ((b < 0 ∨ (k = 9 ∧ d < 0)) ∧ v = none ∧ MWd cs am (M, R, 2, 0) w') ∨ (¬ (b < 0 ∨ (k = 9 ∧ d < 0)) ∧ k = 7 ∧ v = none ∧ MWd cs am (va_up (va_up M 8 (upd (M 8) a b)) 9 (fill (M 9) (20 * a) 20 0), R, wy, b) w') ∨ (¬ (b < 0 ∨ (k = 9 ∧ d < 0)) ∧ ¬ k = 7 ∧ k = 8 ∧ v = none ∧ MWd cs am (va_up (va_up (va_up M 10 (upd (M 10) a b)) 11 (upd (M 11) a (bz (decide (d &&& 1 = 1))))) 12 (fill (M 12) (20 * a) 20 (-1)), R, wy, b) w') ∨ (¬ (b < 0 ∨ (k = 9 ∧ d < 0)) ∧ ¬ k = 7 ∧ ¬ k = 8 ∧ v = none ∧ MWd cs am (va_up (va_up (va_up M 13 (upd (M 13) a b)) 14 (upd (M 14) a d)) 15 (fill (M 15) (400 * a) 400 0), R, wy, b) w') : Option Value → fW → Prop) none w') → ∀ (n9 i : Nat), i + n9 = 20 → ∀ (w : fW) (H : Heap) (locs : List Loc) (ls : Array Slot), MWd cs am (va_up M9 12 (fill (M9 12) (20 * a) i (-1)), R, wy, b) w → fw_P D cls10 A w H → va_S A s.heap H locs → lv_has ls 6 [(0, .ref (am 28)), (1, .int k), (2, .int (nI a)), (3, .int b), (4, .int d), (5, .int (nI i))] → W p l e ({ frames := 1, cells := 0, slots := 0, locals := 21 } : Room) s m ([.ref (am 28), .int k, .int (nI a), .int b, .int d] : List Value).toArray below meth c H locs 0 0 (MQ below (gQ D cls10 A (fun v w' => ((b < 0 ∨ (k = 9 ∧ d < 0)) ∧ v = none ∧ MWd cs am (M, R, 2, 0) w') ∨ (¬ (b < 0 ∨ (k = 9 ∧ d < 0)) ∧ k = 7 ∧ v = none ∧ MWd cs am (va_up (va_up M 8 (upd (M 8) a b)) 9 (fill (M 9) (20 * a) 20 0), R, wy, b) w') ∨ (¬ (b < 0 ∨ (k = 9 ∧ d < 0)) ∧ ¬ k = 7 ∧ k = 8 ∧ v = none ∧ MWd cs am (va_up (va_up (va_up M 10 (upd (M 10) a b)) 11 (upd (M 11) a (bz (decide (d &&& 1 = 1))))) 12 (fill (M 12) (20 * a) 20 (-1)), R, wy, b) w') ∨ (¬ (b < 0 ∨ (k = 9 ∧ d < 0)) ∧ ¬ k = 7 ∧ ¬ k = 8 ∧ v = none ∧ MWd cs am (va_up (va_up (va_up M 13 (upd (M 13) a b)) 14 (upd (M 14) a d)) 15 (fill (M 15) (400 * a) 400 0), R, wy, b) w'))) ([.ref (am 28), .int k, .int (nI a), .int b, .int d] : List Value).toArray s 0 0 A) (F0 m 106 ls [])  := by
    intro M9 hpost n9
    induction n9 with
    | zero =>
      intro i hi w H locs ls hM hF hS hl
      refine lv_iload hx hb dX9_make_106 (lv_at hl 5 rfl) ?_
      refine lv_bipush (v := 20) hx hb dX9_make_108 (by decide) ?_
      refine lv_icmp_ge (tgt := 132) hx hb dX9_make_110 (by decide) (fun c110_1 => ?_) (fun c110_1 => ?_)
      · refine lv_goto (tgt := 181) hx hb dX9_make_132 (by decide) ?_
        refine fw_vret X hF hS ?_ (Nat.le_of_ble_eq_true rfl) (Nat.le_of_ble_eq_true rfl) dX9_make_181
        rw [show i = 20 by omega] at hM
        exact hpost _ hM
      · exact absurd (show nI 20 ≤ nI i from nI_le (by omega) (by omega)) c110_1
    | succ n9 ih =>
      intro i hi w H locs ls hM hF hS hl
      refine lv_iload hx hb dX9_make_106 (lv_at hl 5 rfl) ?_
      refine lv_bipush (v := 20) hx hb dX9_make_108 (by decide) ?_
      refine lv_icmp_ge (tgt := 132) hx hb dX9_make_110 (by decide) (fun c110_1 => ?_) (fun c110_1 => ?_)
      · exact absurd (show nI 20 ≤ nI i from c110_1) (nI_ge (by omega) (by decide))
      · refine lv_aload_n hx hb dX9_make_113 rfl (lv_at hl 0 rfl) ?_
        refine fw_get (v := .ref (am 12)) X gC_ok hF hM.2.1 rfl 12 (by decide) wm_491 rfl dX9_make_114 ?_
        refine lv_bipush (v := 20) hx hb dX9_make_117 (by decide) ?_
        refine lv_iload_n hx hb dX9_make_119 rfl (lv_at hl 2 rfl) ?_
        refine lv_imul hx hb dX9_make_120 ?_
        refine lv_iload hx hb dX9_make_121 (lv_at hl 5 rfl) ?_
        refine lv_iadd hx hb dX9_make_123 ?_
        refine lv_iconst (v := (-1)) hx hb dX9_make_124 (by decide) ?_
        refine fw_iast X hF hS (hM.2.2 12 (Or.inl (by decide))) 0 rfl (show vp_in ((20 * (nI a)) + (nI i)) 80 by rw [(show (20 * (nI a)) + (nI i) = nI (20 * a + i) by simp only [and_sb, and_sb1, nl1, nl2, nl3, nl4, nl5, nl16, nl20, nl400, pk_mul, nI_add])]; exact vp_in_nI (by omega) (by decide)) dX9_make_125 (fun H locs hF hS => ?_)
        rw [show ((20 * (nI a)) + (nI i)).toNatClampNeg = 20 * a + i by rw [(show (20 * (nI a)) + (nI i) = nI (20 * a + i) by simp only [and_sb, and_sb1, nl1, nl2, nl3, nl4, nl5, nl16, nl20, nl400, pk_mul, nI_add])]; exact nI_clamp (by omega)] at hF
        obtain ⟨u2, hu2⟩ : ∃ y : fW, y = va_up w (am 12) (some (.inl (cs 0, 80, .inl (upd (fill (M9 12) (20 * a) i (-1)) (20 * a + i) (-1))))) := ⟨_, rfl⟩
        have hM := hM.set 12 (Or.inl (by decide)) (upd (fill (M9 12) (20 * a) i (-1)) (20 * a + i) (-1))
        rw [uu] at hM
        have hF : fw_P D cls10 A u2 H := by rw [hu2]; exact hF
        have hM : MWd cs am (va_up M9 12 (upd (fill (M9 12) (20 * a) i (-1)) (20 * a + i) (-1)), R, wy, b) u2 := by rw [hu2]; exact hM
        refine lv_iinc (v := nI (i + 1)) (lv' := [(5, .int (nI (i + 1))), (0, .ref (am 28)), (1, .int k), (2, .int (nI a)), (3, .int b), (4, .int d)]) hx hb dX9_make_126 hl (k := 5) rfl (nI_1 i) (by decide) rfl (fun ls hl => ?_)
        refine lv_goto (tgt := 106) hx hb dX9_make_129 (by decide) ?_
        rw [fill_s] at hM
        exact ih (i + 1) (by omega) _ H locs ls hM hF hS (lv_sub hl [1, 2, 3, 4, 5, 0] rfl)
  have loop9 : ∀ M9 : Nat → Nat → Int32, (∀ w' : fW, MWd cs am (va_up M9 15 (fill (M9 15) (400 * a) 400 0), R, wy, b) w' → (fun v w' => ((b < 0 ∨ (k = 9 ∧ d < 0)) ∧ v = none ∧ MWd cs am (M, R, 2, 0) w') ∨ (¬ (b < 0 ∨ (k = 9 ∧ d < 0)) ∧ k = 7 ∧ v = none ∧ MWd cs am (va_up (va_up M 8 (upd (M 8) a b)) 9 (fill (M 9) (20 * a) 20 0), R, wy, b) w') ∨ (¬ (b < 0 ∨ (k = 9 ∧ d < 0)) ∧ ¬ k = 7 ∧ k = 8 ∧ v = none ∧ MWd cs am (va_up (va_up (va_up M 10 (upd (M 10) a b)) 11 (upd (M 11) a (bz (decide (d &&& 1 = 1))))) 12 (fill (M 12) (20 * a) 20 (-1)), R, wy, b) w') ∨ (¬ (b < 0 ∨ (k = 9 ∧ d < 0)) ∧ ¬ k = 7 ∧ ¬ k = 8 ∧ v = none ∧ MWd cs am (va_up (va_up (va_up M 13 (upd (M 13) a b)) 14 (upd (M 14) a d)) 15 (fill (M 15) (400 * a) 400 0), R, wy, b) w') : Option Value → fW → Prop) none w') → ∀ (n9 i : Nat), i + n9 = 400 → ∀ (w : fW) (H : Heap) (locs : List Loc) (ls : Array Slot), MWd cs am (va_up M9 15 (fill (M9 15) (400 * a) i 0), R, wy, b) w → fw_P D cls10 A w H → va_S A s.heap H locs → lv_has ls 6 [(0, .ref (am 28)), (1, .int k), (2, .int (nI a)), (3, .int b), (4, .int d), (5, .int (nI i))] → W p l e ({ frames := 1, cells := 0, slots := 0, locals := 21 } : Room) s m ([.ref (am 28), .int k, .int (nI a), .int b, .int d] : List Value).toArray below meth c H locs 0 0 (MQ below (gQ D cls10 A (fun v w' => ((b < 0 ∨ (k = 9 ∧ d < 0)) ∧ v = none ∧ MWd cs am (M, R, 2, 0) w') ∨ (¬ (b < 0 ∨ (k = 9 ∧ d < 0)) ∧ k = 7 ∧ v = none ∧ MWd cs am (va_up (va_up M 8 (upd (M 8) a b)) 9 (fill (M 9) (20 * a) 20 0), R, wy, b) w') ∨ (¬ (b < 0 ∨ (k = 9 ∧ d < 0)) ∧ ¬ k = 7 ∧ k = 8 ∧ v = none ∧ MWd cs am (va_up (va_up (va_up M 10 (upd (M 10) a b)) 11 (upd (M 11) a (bz (decide (d &&& 1 = 1))))) 12 (fill (M 12) (20 * a) 20 (-1)), R, wy, b) w') ∨ (¬ (b < 0 ∨ (k = 9 ∧ d < 0)) ∧ ¬ k = 7 ∧ ¬ k = 8 ∧ v = none ∧ MWd cs am (va_up (va_up (va_up M 13 (upd (M 13) a b)) 14 (upd (M 14) a d)) 15 (fill (M 15) (400 * a) 400 0), R, wy, b) w'))) ([.ref (am 28), .int k, .int (nI a), .int b, .int d] : List Value).toArray s 0 0 A) (F0 m 153 ls [])  := by
    intro M9 hpost n9
    induction n9 with
    | zero =>
      intro i hi w H locs ls hM hF hS hl
      refine lv_iload hx hb dX9_make_153 (lv_at hl 5 rfl) ?_
      refine lv_sipush (v := 400) hx hb dX9_make_155 (by decide) ?_
      refine lv_icmp_ge (tgt := 181) hx hb dX9_make_158 (by decide) (fun c158_1 => ?_) (fun c158_1 => ?_)
      · refine fw_vret X hF hS ?_ (Nat.le_of_ble_eq_true rfl) (Nat.le_of_ble_eq_true rfl) dX9_make_181
        rw [show i = 400 by omega] at hM
        exact hpost _ hM
      · exact absurd (show nI 400 ≤ nI i from nI_le (by omega) (by omega)) c158_1
    | succ n9 ih =>
      intro i hi w H locs ls hM hF hS hl
      refine lv_iload hx hb dX9_make_153 (lv_at hl 5 rfl) ?_
      refine lv_sipush (v := 400) hx hb dX9_make_155 (by decide) ?_
      refine lv_icmp_ge (tgt := 181) hx hb dX9_make_158 (by decide) (fun c158_1 => ?_) (fun c158_1 => ?_)
      · exact absurd (show nI 400 ≤ nI i from c158_1) (nI_ge (by omega) (by decide))
      · refine lv_aload_n hx hb dX9_make_161 rfl (lv_at hl 0 rfl) ?_
        refine fw_get (v := .ref (am 15)) X gC_ok hF hM.2.1 rfl 15 (by decide) wm_494 rfl dX9_make_162 ?_
        refine lv_sipush (v := 400) hx hb dX9_make_165 (by decide) ?_
        refine lv_iload_n hx hb dX9_make_168 rfl (lv_at hl 2 rfl) ?_
        refine lv_imul hx hb dX9_make_169 ?_
        refine lv_iload hx hb dX9_make_170 (lv_at hl 5 rfl) ?_
        refine lv_iadd hx hb dX9_make_172 ?_
        refine lv_iconst (v := 0) hx hb dX9_make_173 (by decide) ?_
        refine fw_iast X hF hS (hM.2.2 15 (Or.inl (by decide))) 0 rfl (show vp_in ((400 * (nI a)) + (nI i)) 1600 by rw [(show (400 * (nI a)) + (nI i) = nI (400 * a + i) by simp only [and_sb, and_sb1, nl1, nl2, nl3, nl4, nl5, nl16, nl20, nl400, pk_mul, nI_add])]; exact vp_in_nI (by omega) (by decide)) dX9_make_174 (fun H locs hF hS => ?_)
        rw [show ((400 * (nI a)) + (nI i)).toNatClampNeg = 400 * a + i by rw [(show (400 * (nI a)) + (nI i) = nI (400 * a + i) by simp only [and_sb, and_sb1, nl1, nl2, nl3, nl4, nl5, nl16, nl20, nl400, pk_mul, nI_add])]; exact nI_clamp (by omega)] at hF
        obtain ⟨u2, hu2⟩ : ∃ y : fW, y = va_up w (am 15) (some (.inl (cs 0, 1600, .inl (upd (fill (M9 15) (400 * a) i 0) (400 * a + i) 0)))) := ⟨_, rfl⟩
        have hM := hM.set 15 (Or.inl (by decide)) (upd (fill (M9 15) (400 * a) i 0) (400 * a + i) 0)
        rw [uu] at hM
        have hF : fw_P D cls10 A u2 H := by rw [hu2]; exact hF
        have hM : MWd cs am (va_up M9 15 (upd (fill (M9 15) (400 * a) i 0) (400 * a + i) 0), R, wy, b) u2 := by rw [hu2]; exact hM
        refine lv_iinc (v := nI (i + 1)) (lv' := [(5, .int (nI (i + 1))), (0, .ref (am 28)), (1, .int k), (2, .int (nI a)), (3, .int b), (4, .int d)]) hx hb dX9_make_175 hl (k := 5) rfl (nI_1 i) (by decide) rfl (fun ls hl => ?_)
        refine lv_goto (tgt := 153) hx hb dX9_make_178 (by decide) ?_
        rw [fill_s] at hM
        exact ih (i + 1) (by omega) _ H locs ls hM hF hS (lv_sub hl [1, 2, 3, 4, 5, 0] rfl)
  have hl : lv_has ls 6 [(0, .ref (am 28)), (1, .int k), (2, .int (nI a)), (3, .int b), (4, .int d)] := hl
  refine lv_iload_n hx hb dX9_make_0 rfl (lv_at hl 3 rfl) ?_
  refine lv_if_lt (tgt := 15) hx hb dX9_make_1 (by decide) (fun c1_1 => ?_) (fun c1_1 => ?_)
  · refine lv_aload_n hx hb dX9_make_15 rfl (lv_at hl 0 rfl) ?_
    refine lv_iconst (v := 2) hx hb dX9_make_16 (by decide) ?_
    refine fw_callV (As := [.int 2]) (rest := []) X bs_all nw_all mf_X9_fails (c_X9_fails l D cs _ _ am M R wy an hM 2) wm_594 wm_596 wm_11 hF hS rfl hM.2.1 rfl rfl ((⟨⟨Nat.le_of_ble_eq_true rfl, Nat.le_of_ble_eq_true rfl⟩, Nat.le_of_ble_eq_true rfl, Nat.le_of_ble_eq_true rfl⟩)) rfl hl.1 rfl (Nat.le_of_ble_eq_true rfl) dX9_make_17 (fun v u2 H locs hp hF hS hz1 hk1 hd1 => ?_)
    obtain ⟨hv1, hM⟩ := hp
    subst hv1
    have hM : MWd cs am (M, R, 2, 0) u2 := hM
    refine W.eq (g2 := F0 m 20 ls []) rfl ?_
    refine fw_vret X hF hS ?_ (Nat.le_of_ble_eq_true rfl) (Nat.le_of_ble_eq_true rfl) dX9_make_20
    exact Or.inl ⟨Or.inl c1_1, rfl, hM⟩
  · refine lv_iload_n hx hb dX9_make_4 rfl (lv_at hl 1 rfl) ?_
    refine lv_bipush (v := 9) hx hb dX9_make_5 (by decide) ?_
    refine lv_icmp_ne (tgt := 21) hx hb dX9_make_7 (by decide) (fun c7_3 => ?_) (fun c7_3 => ?_)
    · refine lv_aload_n hx hb dX9_make_21 rfl (lv_at hl 0 rfl) ?_
      refine lv_iload_n hx hb dX9_make_22 rfl (lv_at hl 3 rfl) ?_
      refine fw_put X gC_ok hF hS hM.2.1 rfl 27 (by decide) wm_506 rfl (tf := .int) (by decide +kernel) rfl rfl (Nat.le_of_ble_eq_true rfl) dX9_make_23 (fun H locs hF hS => ?_)
      obtain ⟨u4, hu4⟩ : ∃ y : fW, y = va_up w (am 28) (some (mObj am (M, R, wy, b))) := ⟨_, rfl⟩
      have hM := hM.obj R wy b
      have hF : fw_P D cls10 A u4 H := by rw [hu4]; exact hF
      have hM : MWd cs am (M, R, wy, b) u4 := by rw [hu4]; exact hM
      refine lv_iload_n hx hb dX9_make_26 rfl (lv_at hl 1 rfl) ?_
      refine lv_bipush (v := 7) hx hb dX9_make_27 (by decide) ?_
      refine lv_icmp_ne (tgt := 71) hx hb dX9_make_29 (by decide) (fun c29_5 => ?_) (fun c29_5 => ?_)
      · refine lv_iload_n hx hb dX9_make_71 rfl (lv_at hl 1 rfl) ?_
        refine lv_bipush (v := 8) hx hb dX9_make_72 (by decide) ?_
        refine lv_icmp_ne (tgt := 135) hx hb dX9_make_74 (by decide) (fun c74_6 => ?_) (fun c74_6 => ?_)
        · refine lv_aload_n hx hb dX9_make_135 rfl (lv_at hl 0 rfl) ?_
          refine fw_get (v := .ref (am 13)) X gC_ok hF hM.2.1 rfl 13 (by decide) wm_492 rfl dX9_make_136 ?_
          refine lv_iload_n hx hb dX9_make_139 rfl (lv_at hl 2 rfl) ?_
          refine lv_iload_n hx hb dX9_make_140 rfl (lv_at hl 3 rfl) ?_
          refine fw_iast X hF hS (hM.2.2 13 (Or.inl (by decide))) 0 rfl (show vp_in (nI a) 4 from vp_in_nI (by omega) (by decide)) dX9_make_141 (fun H locs hF hS => ?_)
          rw [show (nI a).toNatClampNeg = a from nI_clamp (by omega)] at hF
          obtain ⟨u7, hu7⟩ : ∃ y : fW, y = va_up u4 (am 13) (some (.inl (cs 0, 4, .inl (upd (M 13) a b)))) := ⟨_, rfl⟩
          have hM := hM.set 13 (Or.inl (by decide)) (upd (M 13) a b)
          have hF : fw_P D cls10 A u7 H := by rw [hu7]; exact hF
          have hM : MWd cs am (va_up M 13 (upd (M 13) a b), R, wy, b) u7 := by rw [hu7]; exact hM
          refine lv_aload_n hx hb dX9_make_142 rfl (lv_at hl 0 rfl) ?_
          refine fw_get (v := .ref (am 14)) X gC_ok hF hM.2.1 rfl 14 (by decide) wm_493 rfl dX9_make_143 ?_
          refine lv_iload_n hx hb dX9_make_146 rfl (lv_at hl 2 rfl) ?_
          refine lv_iload hx hb dX9_make_147 (lv_at hl 4 rfl) ?_
          refine fw_iast X hF hS (hM.2.2 14 (Or.inl (by decide))) 0 rfl (show vp_in (nI a) 4 from vp_in_nI (by omega) (by decide)) dX9_make_149 (fun H locs hF hS => ?_)
          rw [show (nI a).toNatClampNeg = a from nI_clamp (by omega)] at hF
          obtain ⟨u8, hu8⟩ : ∃ y : fW, y = va_up u7 (am 14) (some (.inl (cs 0, 4, .inl (upd (M 14) a d)))) := ⟨_, rfl⟩
          have hM := hM.set 14 (Or.inl (by decide)) (upd (M 14) a d)
          have hF : fw_P D cls10 A u8 H := by rw [hu8]; exact hF
          have hM : MWd cs am (va_up (va_up M 13 (upd (M 13) a b)) 14 (upd (M 14) a d), R, wy, b) u8 := by rw [hu8]; exact hM
          refine lv_iconst (v := 0) hx hb dX9_make_150 (by decide) ?_
          refine lv_istore (lv' := [(5, .int 0), (0, .ref (am 28)), (1, .int k), (2, .int (nI a)), (3, .int b), (4, .int d)]) hx hb dX9_make_151 hl (by decide) rfl (fun ls hl => ?_)
          refine loop9 (va_up (va_up M 13 (upd (M 13) a b)) 14 (upd (M 14) a d)) (fun w9 z9 => Or.inr (Or.inr (Or.inr ⟨(fun z => z.elim c1_1 (fun z => c7_3 z.1)), c29_5, c74_6, rfl, z9⟩))) 400 0 (by omega) _ H locs ls ?_ hF hS (lv_sub hl [1, 2, 3, 4, 5, 0] rfl)
          rw [fill_0, va_id]
          exact hM
        · refine lv_aload_n hx hb dX9_make_77 rfl (lv_at hl 0 rfl) ?_
          refine fw_get (v := .ref (am 10)) X gC_ok hF hM.2.1 rfl 10 (by decide) wm_489 rfl dX9_make_78 ?_
          refine lv_iload_n hx hb dX9_make_81 rfl (lv_at hl 2 rfl) ?_
          refine lv_iload_n hx hb dX9_make_82 rfl (lv_at hl 3 rfl) ?_
          refine fw_iast X hF hS (hM.2.2 10 (Or.inl (by decide))) 0 rfl (show vp_in (nI a) 4 from vp_in_nI (by omega) (by decide)) dX9_make_83 (fun H locs hF hS => ?_)
          rw [show (nI a).toNatClampNeg = a from nI_clamp (by omega)] at hF
          obtain ⟨u9, hu9⟩ : ∃ y : fW, y = va_up u4 (am 10) (some (.inl (cs 0, 4, .inl (upd (M 10) a b)))) := ⟨_, rfl⟩
          have hM := hM.set 10 (Or.inl (by decide)) (upd (M 10) a b)
          have hF : fw_P D cls10 A u9 H := by rw [hu9]; exact hF
          have hM : MWd cs am (va_up M 10 (upd (M 10) a b), R, wy, b) u9 := by rw [hu9]; exact hM
          refine lv_aload_n hx hb dX9_make_84 rfl (lv_at hl 0 rfl) ?_
          refine fw_get (v := .ref (am 11)) X gC_ok hF hM.2.1 rfl 11 (by decide) wm_490 rfl dX9_make_85 ?_
          refine lv_iload_n hx hb dX9_make_88 rfl (lv_at hl 2 rfl) ?_
          refine lv_iload hx hb dX9_make_89 (lv_at hl 4 rfl) ?_
          refine lv_iconst (v := 1) hx hb dX9_make_91 (by decide) ?_
          refine lv_iand hx hb dX9_make_92 ?_
          refine lv_iconst (v := 1) hx hb dX9_make_93 (by decide) ?_
          refine lv_icmp_ne (tgt := 101) hx hb dX9_make_94 (by decide) (fun c94_10 => ?_) (fun c94_10 => ?_)
          · refine lv_iconst (v := 0) hx hb dX9_make_101 (by decide) ?_
            refine fw_zast X hF hS (hM.2.2 11 (Or.inl (by decide))) 1 rfl (show vp_in (nI a) 4 from vp_in_nI (by omega) (by decide)) (v := 0) rfl dX9_make_102 (fun H locs hF hS => ?_)
            rw [show (nI a).toNatClampNeg = a from nI_clamp (by omega)] at hF
            obtain ⟨u11, hu11⟩ : ∃ y : fW, y = va_up u9 (am 11) (some (.inl (cs 1, 4, .inl (upd (M 11) a 0)))) := ⟨_, rfl⟩
            have hM := hM.set 11 (Or.inl (by decide)) (upd (M 11) a 0)
            have hF : fw_P D cls10 A u11 H := by rw [hu11]; exact hF
            have hM : MWd cs am (va_up (va_up M 10 (upd (M 10) a b)) 11 (upd (M 11) a 0), R, wy, b) u11 := by rw [hu11]; exact hM
            refine lv_iconst (v := 0) hx hb dX9_make_103 (by decide) ?_
            refine lv_istore (lv' := [(5, .int 0), (0, .ref (am 28)), (1, .int k), (2, .int (nI a)), (3, .int b), (4, .int d)]) hx hb dX9_make_104 hl (by decide) rfl (fun ls hl => ?_)
            refine loop8 (va_up (va_up M 10 (upd (M 10) a b)) 11 (upd (M 11) a 0)) (fun w9 z9 => Or.inr (Or.inr (Or.inl ⟨(fun z => z.elim c1_1 (fun z => c7_3 z.1)), c29_5, c74_6, rfl, by rw [show bz (decide (d &&& 1 = 1)) = 0 by simp [bz, c94_10]]; exact z9⟩))) 20 0 (by omega) _ H locs ls ?_ hF hS (lv_sub hl [1, 2, 3, 4, 5, 0] rfl)
            rw [fill_0, va_id]
            exact hM
          · refine lv_iconst (v := 1) hx hb dX9_make_97 (by decide) ?_
            refine lv_goto (tgt := 102) hx hb dX9_make_98 (by decide) ?_
            refine fw_zast X hF hS (hM.2.2 11 (Or.inl (by decide))) 1 rfl (show vp_in (nI a) 4 from vp_in_nI (by omega) (by decide)) (v := 1) rfl dX9_make_102 (fun H locs hF hS => ?_)
            rw [show (nI a).toNatClampNeg = a from nI_clamp (by omega)] at hF
            obtain ⟨u12, hu12⟩ : ∃ y : fW, y = va_up u9 (am 11) (some (.inl (cs 1, 4, .inl (upd (M 11) a 1)))) := ⟨_, rfl⟩
            have hM := hM.set 11 (Or.inl (by decide)) (upd (M 11) a 1)
            have hF : fw_P D cls10 A u12 H := by rw [hu12]; exact hF
            have hM : MWd cs am (va_up (va_up M 10 (upd (M 10) a b)) 11 (upd (M 11) a 1), R, wy, b) u12 := by rw [hu12]; exact hM
            refine lv_iconst (v := 0) hx hb dX9_make_103 (by decide) ?_
            refine lv_istore (lv' := [(5, .int 0), (0, .ref (am 28)), (1, .int k), (2, .int (nI a)), (3, .int b), (4, .int d)]) hx hb dX9_make_104 hl (by decide) rfl (fun ls hl => ?_)
            refine loop8 (va_up (va_up M 10 (upd (M 10) a b)) 11 (upd (M 11) a 1)) (fun w9 z9 => Or.inr (Or.inr (Or.inl ⟨(fun z => z.elim c1_1 (fun z => c7_3 z.1)), c29_5, c74_6, rfl, by rw [show bz (decide (d &&& 1 = 1)) = 1 by simp [bz, c94_10]]; exact z9⟩))) 20 0 (by omega) _ H locs ls ?_ hF hS (lv_sub hl [1, 2, 3, 4, 5, 0] rfl)
            rw [fill_0, va_id]
            exact hM
      · refine lv_aload_n hx hb dX9_make_32 rfl (lv_at hl 0 rfl) ?_
        refine fw_get (v := .ref (am 8)) X gC_ok hF hM.2.1 rfl 8 (by decide) wm_487 rfl dX9_make_33 ?_
        refine lv_iload_n hx hb dX9_make_36 rfl (lv_at hl 2 rfl) ?_
        refine lv_iload_n hx hb dX9_make_37 rfl (lv_at hl 3 rfl) ?_
        refine fw_iast X hF hS (hM.2.2 8 (Or.inl (by decide))) 0 rfl (show vp_in (nI a) 4 from vp_in_nI (by omega) (by decide)) dX9_make_38 (fun H locs hF hS => ?_)
        rw [show (nI a).toNatClampNeg = a from nI_clamp (by omega)] at hF
        obtain ⟨u13, hu13⟩ : ∃ y : fW, y = va_up u4 (am 8) (some (.inl (cs 0, 4, .inl (upd (M 8) a b)))) := ⟨_, rfl⟩
        have hM := hM.set 8 (Or.inl (by decide)) (upd (M 8) a b)
        have hF : fw_P D cls10 A u13 H := by rw [hu13]; exact hF
        have hM : MWd cs am (va_up M 8 (upd (M 8) a b), R, wy, b) u13 := by rw [hu13]; exact hM
        refine lv_iconst (v := 0) hx hb dX9_make_39 (by decide) ?_
        refine lv_istore (lv' := [(5, .int 0), (0, .ref (am 28)), (1, .int k), (2, .int (nI a)), (3, .int b), (4, .int d)]) hx hb dX9_make_40 hl (by decide) rfl (fun ls hl => ?_)
        refine loop7 (va_up M 8 (upd (M 8) a b)) (fun w9 z9 => Or.inr (Or.inl ⟨(fun z => z.elim c1_1 (fun z => c7_3 z.1)), c29_5, rfl, z9⟩)) 20 0 (by omega) _ H locs ls ?_ hF hS (lv_sub hl [1, 2, 3, 4, 5, 0] rfl)
        rw [fill_0, va_id]
        exact hM
    · refine lv_iload hx hb dX9_make_10 (lv_at hl 4 rfl) ?_
      refine lv_if_ge (tgt := 21) hx hb dX9_make_12 (by decide) (fun c12_14 => ?_) (fun c12_14 => ?_)
      · refine lv_aload_n hx hb dX9_make_21 rfl (lv_at hl 0 rfl) ?_
        refine lv_iload_n hx hb dX9_make_22 rfl (lv_at hl 3 rfl) ?_
        refine fw_put X gC_ok hF hS hM.2.1 rfl 27 (by decide) wm_506 rfl (tf := .int) (by decide +kernel) rfl rfl (Nat.le_of_ble_eq_true rfl) dX9_make_23 (fun H locs hF hS => ?_)
        obtain ⟨u15, hu15⟩ : ∃ y : fW, y = va_up w (am 28) (some (mObj am (M, R, wy, b))) := ⟨_, rfl⟩
        have hM := hM.obj R wy b
        have hF : fw_P D cls10 A u15 H := by rw [hu15]; exact hF
        have hM : MWd cs am (M, R, wy, b) u15 := by rw [hu15]; exact hM
        refine lv_iload_n hx hb dX9_make_26 rfl (lv_at hl 1 rfl) ?_
        refine lv_bipush (v := 7) hx hb dX9_make_27 (by decide) ?_
        refine lv_icmp_ne (tgt := 71) hx hb dX9_make_29 (by decide) (fun c29_16 => ?_) (fun c29_16 => ?_)
        · refine lv_iload_n hx hb dX9_make_71 rfl (lv_at hl 1 rfl) ?_
          refine lv_bipush (v := 8) hx hb dX9_make_72 (by decide) ?_
          refine lv_icmp_ne (tgt := 135) hx hb dX9_make_74 (by decide) (fun c74_17 => ?_) (fun c74_17 => ?_)
          · refine lv_aload_n hx hb dX9_make_135 rfl (lv_at hl 0 rfl) ?_
            refine fw_get (v := .ref (am 13)) X gC_ok hF hM.2.1 rfl 13 (by decide) wm_492 rfl dX9_make_136 ?_
            refine lv_iload_n hx hb dX9_make_139 rfl (lv_at hl 2 rfl) ?_
            refine lv_iload_n hx hb dX9_make_140 rfl (lv_at hl 3 rfl) ?_
            refine fw_iast X hF hS (hM.2.2 13 (Or.inl (by decide))) 0 rfl (show vp_in (nI a) 4 from vp_in_nI (by omega) (by decide)) dX9_make_141 (fun H locs hF hS => ?_)
            rw [show (nI a).toNatClampNeg = a from nI_clamp (by omega)] at hF
            obtain ⟨u18, hu18⟩ : ∃ y : fW, y = va_up u15 (am 13) (some (.inl (cs 0, 4, .inl (upd (M 13) a b)))) := ⟨_, rfl⟩
            have hM := hM.set 13 (Or.inl (by decide)) (upd (M 13) a b)
            have hF : fw_P D cls10 A u18 H := by rw [hu18]; exact hF
            have hM : MWd cs am (va_up M 13 (upd (M 13) a b), R, wy, b) u18 := by rw [hu18]; exact hM
            refine lv_aload_n hx hb dX9_make_142 rfl (lv_at hl 0 rfl) ?_
            refine fw_get (v := .ref (am 14)) X gC_ok hF hM.2.1 rfl 14 (by decide) wm_493 rfl dX9_make_143 ?_
            refine lv_iload_n hx hb dX9_make_146 rfl (lv_at hl 2 rfl) ?_
            refine lv_iload hx hb dX9_make_147 (lv_at hl 4 rfl) ?_
            refine fw_iast X hF hS (hM.2.2 14 (Or.inl (by decide))) 0 rfl (show vp_in (nI a) 4 from vp_in_nI (by omega) (by decide)) dX9_make_149 (fun H locs hF hS => ?_)
            rw [show (nI a).toNatClampNeg = a from nI_clamp (by omega)] at hF
            obtain ⟨u19, hu19⟩ : ∃ y : fW, y = va_up u18 (am 14) (some (.inl (cs 0, 4, .inl (upd (M 14) a d)))) := ⟨_, rfl⟩
            have hM := hM.set 14 (Or.inl (by decide)) (upd (M 14) a d)
            have hF : fw_P D cls10 A u19 H := by rw [hu19]; exact hF
            have hM : MWd cs am (va_up (va_up M 13 (upd (M 13) a b)) 14 (upd (M 14) a d), R, wy, b) u19 := by rw [hu19]; exact hM
            refine lv_iconst (v := 0) hx hb dX9_make_150 (by decide) ?_
            refine lv_istore (lv' := [(5, .int 0), (0, .ref (am 28)), (1, .int k), (2, .int (nI a)), (3, .int b), (4, .int d)]) hx hb dX9_make_151 hl (by decide) rfl (fun ls hl => ?_)
            refine loop9 (va_up (va_up M 13 (upd (M 13) a b)) 14 (upd (M 14) a d)) (fun w9 z9 => Or.inr (Or.inr (Or.inr ⟨(fun z => z.elim c1_1 (fun z => i_nlt.mpr c12_14 z.2)), c29_16, c74_17, rfl, z9⟩))) 400 0 (by omega) _ H locs ls ?_ hF hS (lv_sub hl [1, 2, 3, 4, 5, 0] rfl)
            rw [fill_0, va_id]
            exact hM
          · refine lv_aload_n hx hb dX9_make_77 rfl (lv_at hl 0 rfl) ?_
            refine fw_get (v := .ref (am 10)) X gC_ok hF hM.2.1 rfl 10 (by decide) wm_489 rfl dX9_make_78 ?_
            refine lv_iload_n hx hb dX9_make_81 rfl (lv_at hl 2 rfl) ?_
            refine lv_iload_n hx hb dX9_make_82 rfl (lv_at hl 3 rfl) ?_
            refine fw_iast X hF hS (hM.2.2 10 (Or.inl (by decide))) 0 rfl (show vp_in (nI a) 4 from vp_in_nI (by omega) (by decide)) dX9_make_83 (fun H locs hF hS => ?_)
            rw [show (nI a).toNatClampNeg = a from nI_clamp (by omega)] at hF
            obtain ⟨u20, hu20⟩ : ∃ y : fW, y = va_up u15 (am 10) (some (.inl (cs 0, 4, .inl (upd (M 10) a b)))) := ⟨_, rfl⟩
            have hM := hM.set 10 (Or.inl (by decide)) (upd (M 10) a b)
            have hF : fw_P D cls10 A u20 H := by rw [hu20]; exact hF
            have hM : MWd cs am (va_up M 10 (upd (M 10) a b), R, wy, b) u20 := by rw [hu20]; exact hM
            refine lv_aload_n hx hb dX9_make_84 rfl (lv_at hl 0 rfl) ?_
            refine fw_get (v := .ref (am 11)) X gC_ok hF hM.2.1 rfl 11 (by decide) wm_490 rfl dX9_make_85 ?_
            refine lv_iload_n hx hb dX9_make_88 rfl (lv_at hl 2 rfl) ?_
            refine lv_iload hx hb dX9_make_89 (lv_at hl 4 rfl) ?_
            refine lv_iconst (v := 1) hx hb dX9_make_91 (by decide) ?_
            refine lv_iand hx hb dX9_make_92 ?_
            refine lv_iconst (v := 1) hx hb dX9_make_93 (by decide) ?_
            refine lv_icmp_ne (tgt := 101) hx hb dX9_make_94 (by decide) (fun c94_21 => ?_) (fun c94_21 => ?_)
            · refine lv_iconst (v := 0) hx hb dX9_make_101 (by decide) ?_
              refine fw_zast X hF hS (hM.2.2 11 (Or.inl (by decide))) 1 rfl (show vp_in (nI a) 4 from vp_in_nI (by omega) (by decide)) (v := 0) rfl dX9_make_102 (fun H locs hF hS => ?_)
              rw [show (nI a).toNatClampNeg = a from nI_clamp (by omega)] at hF
              obtain ⟨u22, hu22⟩ : ∃ y : fW, y = va_up u20 (am 11) (some (.inl (cs 1, 4, .inl (upd (M 11) a 0)))) := ⟨_, rfl⟩
              have hM := hM.set 11 (Or.inl (by decide)) (upd (M 11) a 0)
              have hF : fw_P D cls10 A u22 H := by rw [hu22]; exact hF
              have hM : MWd cs am (va_up (va_up M 10 (upd (M 10) a b)) 11 (upd (M 11) a 0), R, wy, b) u22 := by rw [hu22]; exact hM
              refine lv_iconst (v := 0) hx hb dX9_make_103 (by decide) ?_
              refine lv_istore (lv' := [(5, .int 0), (0, .ref (am 28)), (1, .int k), (2, .int (nI a)), (3, .int b), (4, .int d)]) hx hb dX9_make_104 hl (by decide) rfl (fun ls hl => ?_)
              refine loop8 (va_up (va_up M 10 (upd (M 10) a b)) 11 (upd (M 11) a 0)) (fun w9 z9 => Or.inr (Or.inr (Or.inl ⟨(fun z => z.elim c1_1 (fun z => i_nlt.mpr c12_14 z.2)), c29_16, c74_17, rfl, by rw [show bz (decide (d &&& 1 = 1)) = 0 by simp [bz, c94_21]]; exact z9⟩))) 20 0 (by omega) _ H locs ls ?_ hF hS (lv_sub hl [1, 2, 3, 4, 5, 0] rfl)
              rw [fill_0, va_id]
              exact hM
            · refine lv_iconst (v := 1) hx hb dX9_make_97 (by decide) ?_
              refine lv_goto (tgt := 102) hx hb dX9_make_98 (by decide) ?_
              refine fw_zast X hF hS (hM.2.2 11 (Or.inl (by decide))) 1 rfl (show vp_in (nI a) 4 from vp_in_nI (by omega) (by decide)) (v := 1) rfl dX9_make_102 (fun H locs hF hS => ?_)
              rw [show (nI a).toNatClampNeg = a from nI_clamp (by omega)] at hF
              obtain ⟨u23, hu23⟩ : ∃ y : fW, y = va_up u20 (am 11) (some (.inl (cs 1, 4, .inl (upd (M 11) a 1)))) := ⟨_, rfl⟩
              have hM := hM.set 11 (Or.inl (by decide)) (upd (M 11) a 1)
              have hF : fw_P D cls10 A u23 H := by rw [hu23]; exact hF
              have hM : MWd cs am (va_up (va_up M 10 (upd (M 10) a b)) 11 (upd (M 11) a 1), R, wy, b) u23 := by rw [hu23]; exact hM
              refine lv_iconst (v := 0) hx hb dX9_make_103 (by decide) ?_
              refine lv_istore (lv' := [(5, .int 0), (0, .ref (am 28)), (1, .int k), (2, .int (nI a)), (3, .int b), (4, .int d)]) hx hb dX9_make_104 hl (by decide) rfl (fun ls hl => ?_)
              refine loop8 (va_up (va_up M 10 (upd (M 10) a b)) 11 (upd (M 11) a 1)) (fun w9 z9 => Or.inr (Or.inr (Or.inl ⟨(fun z => z.elim c1_1 (fun z => i_nlt.mpr c12_14 z.2)), c29_16, c74_17, rfl, by rw [show bz (decide (d &&& 1 = 1)) = 1 by simp [bz, c94_21]]; exact z9⟩))) 20 0 (by omega) _ H locs ls ?_ hF hS (lv_sub hl [1, 2, 3, 4, 5, 0] rfl)
              rw [fill_0, va_id]
              exact hM
        · refine lv_aload_n hx hb dX9_make_32 rfl (lv_at hl 0 rfl) ?_
          refine fw_get (v := .ref (am 8)) X gC_ok hF hM.2.1 rfl 8 (by decide) wm_487 rfl dX9_make_33 ?_
          refine lv_iload_n hx hb dX9_make_36 rfl (lv_at hl 2 rfl) ?_
          refine lv_iload_n hx hb dX9_make_37 rfl (lv_at hl 3 rfl) ?_
          refine fw_iast X hF hS (hM.2.2 8 (Or.inl (by decide))) 0 rfl (show vp_in (nI a) 4 from vp_in_nI (by omega) (by decide)) dX9_make_38 (fun H locs hF hS => ?_)
          rw [show (nI a).toNatClampNeg = a from nI_clamp (by omega)] at hF
          obtain ⟨u24, hu24⟩ : ∃ y : fW, y = va_up u15 (am 8) (some (.inl (cs 0, 4, .inl (upd (M 8) a b)))) := ⟨_, rfl⟩
          have hM := hM.set 8 (Or.inl (by decide)) (upd (M 8) a b)
          have hF : fw_P D cls10 A u24 H := by rw [hu24]; exact hF
          have hM : MWd cs am (va_up M 8 (upd (M 8) a b), R, wy, b) u24 := by rw [hu24]; exact hM
          refine lv_iconst (v := 0) hx hb dX9_make_39 (by decide) ?_
          refine lv_istore (lv' := [(5, .int 0), (0, .ref (am 28)), (1, .int k), (2, .int (nI a)), (3, .int b), (4, .int d)]) hx hb dX9_make_40 hl (by decide) rfl (fun ls hl => ?_)
          refine loop7 (va_up M 8 (upd (M 8) a b)) (fun w9 z9 => Or.inr (Or.inl ⟨(fun z => z.elim c1_1 (fun z => i_nlt.mpr c12_14 z.2)), c29_16, rfl, z9⟩)) 20 0 (by omega) _ H locs ls ?_ hF hS (lv_sub hl [1, 2, 3, 4, 5, 0] rfl)
          rw [fill_0, va_id]
          exact hM
      · refine lv_aload_n hx hb dX9_make_15 rfl (lv_at hl 0 rfl) ?_
        refine lv_iconst (v := 2) hx hb dX9_make_16 (by decide) ?_
        refine fw_callV (As := [.int 2]) (rest := []) X bs_all nw_all mf_X9_fails (c_X9_fails l D cs _ _ am M R wy an hM 2) wm_594 wm_596 wm_11 hF hS rfl hM.2.1 rfl rfl ((⟨⟨Nat.le_of_ble_eq_true rfl, Nat.le_of_ble_eq_true rfl⟩, Nat.le_of_ble_eq_true rfl, Nat.le_of_ble_eq_true rfl⟩)) rfl hl.1 rfl (Nat.le_of_ble_eq_true rfl) dX9_make_17 (fun v u25 H locs hp hF hS hz1 hk1 hd1 => ?_)
        obtain ⟨hv1, hM⟩ := hp
        subst hv1
        have hM : MWd cs am (M, R, 2, 0) u25 := hM
        refine W.eq (g2 := F0 m 20 ls []) rfl ?_
        refine fw_vret X hF hS ?_ (Nat.le_of_ble_eq_true rfl) (Nat.le_of_ble_eq_true rfl) dX9_make_20
        exact Or.inl ⟨Or.inr ⟨c7_3, i_nle.mp c12_14⟩, rfl, hM⟩
