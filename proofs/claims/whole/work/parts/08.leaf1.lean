set_option maxHeartbeats 4000000 in
set_option maxRecDepth 100000 in
/-- 0 ≤ i < n -/
theorem c_X8_isWithin (l : Launch) (D : va_G) (cs : Nat → ClassId) (w : fW) (sz : Nat) (i n : Int32) : gM l bs_B nw_B D cls10 (tyl cs) yX8_isWithin cX8_isWithin 2 (some .boolean) 0 0 0 0 w sz [.int i, .int n] (fun v w' => v = some (.int (bz (wi i n))) ∧ w' = w) := by
  refine gM.of (by decide +kernel) (Nat.le_of_ble_eq_true rfl) (fun p e s m below meth c A ls X hsz hnm hF hS hl => ?_)
  have hx := X.1
  have hb := X.2.1
  have hl : lv_has ls 2 [(0, .int i), (1, .int n)] := hl
  refine lv_iload_n hx hb dX8_isWithin_0 rfl (lv_at hl 0 rfl) ?_
  refine lv_if_lt (tgt := 13) hx hb dX8_isWithin_1 (by decide) (fun c1_1 => ?_) (fun c1_1 => ?_)
  · refine lv_iconst (v := 0) hx hb dX8_isWithin_13 (by decide) ?_
    refine fw_zret X hF hS rfl ?_ (Nat.le_of_ble_eq_true rfl) (Nat.le_of_ble_eq_true rfl) dX8_isWithin_14
    exact ⟨congrArg (fun b => some (Value.int (bz b))) ((wi_f1 c1_1).symm), rfl⟩
  · refine lv_iload_n hx hb dX8_isWithin_4 rfl (lv_at hl 0 rfl) ?_
    refine lv_iload_n hx hb dX8_isWithin_5 rfl (lv_at hl 1 rfl) ?_
    refine lv_icmp_ge (tgt := 13) hx hb dX8_isWithin_6 (by decide) (fun c6_2 => ?_) (fun c6_2 => ?_)
    · refine lv_iconst (v := 0) hx hb dX8_isWithin_13 (by decide) ?_
      refine fw_zret X hF hS rfl ?_ (Nat.le_of_ble_eq_true rfl) (Nat.le_of_ble_eq_true rfl) dX8_isWithin_14
      exact ⟨congrArg (fun b => some (Value.int (bz b))) ((wi_f2 c6_2).symm), rfl⟩
    · refine lv_iconst (v := 1) hx hb dX8_isWithin_9 (by decide) ?_
      refine lv_goto (tgt := 14) hx hb dX8_isWithin_10 (by decide) ?_
      refine fw_zret X hF hS rfl ?_ (Nat.le_of_ble_eq_true rfl) (Nat.le_of_ble_eq_true rfl) dX8_isWithin_14
      exact ⟨congrArg (fun b => some (Value.int (bz b))) ((wi_t2 c1_1 c6_2).symm), rfl⟩
set_option maxHeartbeats 4000000 in
set_option maxRecDepth 100000 in
theorem c_X8_failure (l : Launch) (D : va_G) (cs : Nat → ClassId) (w : fW) (sz : Nat) (r : Int32) : gM l bs_B nw_B D cls10 (tyl cs) yX8_failure cX8_failure 1 (some .long) 0 0 0 0 w sz [.int r] (fun v w' => v = some (.long (fl r)) ∧ w' = w) := by
  refine gM.of (by decide +kernel) (Nat.le_of_ble_eq_true rfl) (fun p e s m below meth c A ls X hsz hnm hF hS hl => ?_)
  have hx := X.1
  have hb := X.2.1
  have hl : lv_has ls 1 [(0, .int r)] := hl
  refine lv_ldc2 (v := (-9223372036854775808)) hx hb X.2.2.2.1 (X.2.2.2.2.1 _ wm_235) dX8_failure_0 ?_
  refine lv_iload_n hx hb dX8_failure_3 rfl (lv_at hl 0 rfl) ?_
  refine lv_i2l hx hb dX8_failure_4 rfl ?_
  refine lv_ladd hx hb dX8_failure_5 ?_
  refine fw_lret X hF hS ?_ (Nat.le_of_ble_eq_true rfl) (Nat.le_of_ble_eq_true rfl) dX8_failure_6
  exact ⟨rfl, rfl⟩
set_option maxHeartbeats 4000000 in
set_option maxRecDepth 100000 in
theorem c_X8_reasonOf (l : Launch) (D : va_G) (cs : Nat → ClassId) (w : fW) (sz : Nat) (o : Int64) : gM l bs_B nw_B D cls10 (tyl cs) yX8_reasonOf cX8_reasonOf 2 (some .int) 0 0 0 0 w sz [.long o] (fun v w' => v = some (.int (rsn o)) ∧ w' = w) := by
  refine gM.of (by decide +kernel) (Nat.le_of_ble_eq_true rfl) (fun p e s m below meth c A ls X hsz hnm hF hS hl => ?_)
  have hx := X.1
  have hb := X.2.1
  have hl : lv_has ls 2 [(0, .long o)] := hl
  refine lv_lload_n hx hb dX8_reasonOf_0 rfl (lv_at hl 0 rfl) ?_
  refine lv_ldc2 (v := (-2147483648)) hx hb X.2.2.2.1 (X.2.2.2.2.1 _ wm_345) dX8_reasonOf_1 ?_
  refine W.lcmp hx hb dX8_reasonOf_4 ?_
  refine lv_if_ge (tgt := 17) hx hb dX8_reasonOf_5 (by decide) (fun c5_1 => ?_) (fun c5_1 => ?_)
  · refine lv_iconst (v := 0) hx hb dX8_reasonOf_17 (by decide) ?_
    refine fw_iret X hF hS ?_ (Nat.le_of_ble_eq_true rfl) (Nat.le_of_ble_eq_true rfl) dX8_reasonOf_18
    refine ⟨congrArg (fun z => some (Value.int z)) ?_, rfl⟩
    unfold rsn
    first | rw [if_neg (fun q => Int64.not_le.mpr q ((lg_cmp_ge _ _).mp c5_1))] | rw [if_pos (Int64.not_le.mp (fun q => c5_1 ((lg_cmp_ge _ _).mpr q)))]
  · refine lv_lload_n hx hb dX8_reasonOf_8 rfl (lv_at hl 0 rfl) ?_
    refine lv_ldc2 (v := (-9223372036854775808)) hx hb X.2.2.2.1 (X.2.2.2.2.1 _ wm_235) dX8_reasonOf_9 ?_
    refine lv_lsub hx hb dX8_reasonOf_12 ?_
    refine lv_l2i hx hb dX8_reasonOf_13 rfl ?_
    refine lv_goto (tgt := 18) hx hb dX8_reasonOf_14 (by decide) ?_
    refine fw_iret X hF hS ?_ (Nat.le_of_ble_eq_true rfl) (Nat.le_of_ble_eq_true rfl) dX8_reasonOf_18
    refine ⟨congrArg (fun z => some (Value.int z)) ?_, rfl⟩
    unfold rsn
    first | rw [if_neg (fun q => Int64.not_le.mpr q ((lg_cmp_ge _ _).mp c5_1))] | rw [if_pos (Int64.not_le.mp (fun q => c5_1 ((lg_cmp_ge _ _).mpr q)))]
set_option maxHeartbeats 4000000 in
set_option maxRecDepth 100000 in
theorem c_X8_lengthOrFailure (l : Launch) (D : va_G) (cs : Nat → ClassId) (w : fW) (sz : Nat) (n : Int32) : gM l bs_B nw_B D cls10 (tyl cs) yX8_lengthOrFailure cX8_lengthOrFailure 1 (some .long) 1 20 0 0 w sz [.int n] (fun v w' => v = some (.long (if n = -1 then fl 1 else n.toInt64)) ∧ w' = w) := by
  refine gM.of (by decide +kernel) (Nat.le_of_ble_eq_true rfl) (fun p e s m below meth c A ls X hsz hnm hF hS hl => ?_)
  have hx := X.1
  have hb := X.2.1
  have hl : lv_has ls 1 [(0, .int n)] := hl
  refine lv_iload_n hx hb dX8_lengthOrFailure_0 rfl (lv_at hl 0 rfl) ?_
  refine lv_iconst (v := (-1)) hx hb dX8_lengthOrFailure_1 (by decide) ?_
  refine lv_icmp_ne (tgt := 12) hx hb dX8_lengthOrFailure_2 (by decide) (fun c2_1 => ?_) (fun c2_1 => ?_)
  · refine lv_iload_n hx hb dX8_lengthOrFailure_12 rfl (lv_at hl 0 rfl) ?_
    refine lv_i2l hx hb dX8_lengthOrFailure_13 rfl ?_
    refine fw_lret X hF hS ?_ (Nat.le_of_ble_eq_true rfl) (Nat.le_of_ble_eq_true rfl) dX8_lengthOrFailure_14
    refine ⟨congrArg (fun z => some (Value.long z)) ?_, rfl⟩
    first | rw [if_pos c2_1] | rw [if_neg c2_1]
  · refine lv_iconst (v := 1) hx hb dX8_lengthOrFailure_5 (by decide) ?_
    refine fw_callS (As := [.int 1]) (rest := []) X bs_all nw_all mf_X8_failure (c_X8_failure l D cs _ _ 1) wm_306 wm_233 hF hS rfl ((⟨⟨Nat.le_of_ble_eq_true rfl, Nat.le_of_ble_eq_true rfl⟩, Nat.le_of_ble_eq_true rfl, Nat.le_of_ble_eq_true rfl⟩)) rfl hl.1 rfl (Nat.le_of_ble_eq_true rfl) dX8_lengthOrFailure_6 (fun v u2 H locs hp hF hS hz1 hk1 hd1 => ?_)
    obtain ⟨rfl, hw1⟩ := hp
    rw [hw1] at hF
    refine W.eq (g2 := F0 m 9 ls [.long (fl 1)]) rfl ?_
    refine lv_goto (tgt := 14) hx hb dX8_lengthOrFailure_9 (by decide) ?_
    refine fw_lret X hF hS ?_ (Nat.le_of_ble_eq_true rfl) (Nat.le_of_ble_eq_true rfl) dX8_lengthOrFailure_14
    refine ⟨congrArg (fun z => some (Value.long z)) ?_, rfl⟩
    first | rw [if_pos c2_1] | rw [if_neg c2_1]
set_option maxHeartbeats 4000000 in
set_option maxRecDepth 100000 in
theorem c_X7_init (l : Launch) (D : va_G) (cs : Nat → ClassId) (w : fW) (sz : Nat) (h0 : Nat) (sp tu : Int32) (di : Bool) (h : w h0 = some (.inr (7, [.int 0, .int 0, .int tu]))) : gM l bs_B nw_B D cls10 (tyl cs) yX7_init cX7_init 3 none 1 20 0 0 w sz [.ref h0, .int sp, .int (bz di)] (fun v w' => v = none ∧ w' = va_up w h0 (some (cWh (sp, di, tu)))) := by
  refine gM.of (by decide +kernel) (Nat.le_of_ble_eq_true rfl) (fun p e s m below meth c A ls X hsz hnm hF hS hl => ?_)
  have hx := X.1
  have hb := X.2.1
  have hl : lv_has ls 3 [(0, .ref h0), (1, .int sp), (2, .int (bz di))] := hl
  have h : w h0 = some (.inr (7, [.int 0, .int 0, .int tu])) := h
  refine lv_aload_n hx hb dX7_init_0 rfl (lv_at hl 0 rfl) ?_
  refine W.objInit hx hb X.2.2.2.1 (X.2.2.2.2.1 _ wm_241) (X.2.2.2.2.1 _ wm_42) (X.2.2.2.2.1 _ wm_43) rfl (by rw [X.2.2.1]; exact hl.1) rfl dX7_init_1 (Nat.le_of_ble_eq_true rfl) (Nat.le_of_ble_eq_true rfl) ?_
  refine W.eq (g2 := F0 m 4 ls []) rfl ?_
  refine lv_aload_n hx hb dX7_init_4 rfl (lv_at hl 0 rfl) ?_
  refine lv_iload_n hx hb dX7_init_5 rfl (lv_at hl 1 rfl) ?_
  refine fw_putF X gC_ok hF hS h rfl 0 (by decide) wm_242 rfl hnm rfl (tf := .int) (by decide +kernel) rfl rfl (Nat.le_of_ble_eq_true rfl) dX7_init_6 (fun H locs hF hS => ?_)
  have hF : fw_P D cls10 A (va_up w h0 (some (.inr (7, [.int sp, .int 0, .int tu])))) H := hF
  refine lv_aload_n hx hb dX7_init_9 rfl (lv_at hl 0 rfl) ?_
  refine lv_iload_n hx hb dX7_init_10 rfl (lv_at hl 2 rfl) ?_
  refine fw_putF X gC_ok hF hS (va_up_self _ _ _) rfl 1 (by decide) wm_244 rfl hnm rfl (tf := .boolean) (by decide +kernel) (gx_nbz _) (gx_fbz _) (Nat.le_of_ble_eq_true rfl) dX7_init_11 (fun H locs hF hS => ?_)
  rw [bx_uu] at hF
  have hF : fw_P D cls10 A (va_up w h0 (some (.inr (7, [.int sp, .int (bz di), .int tu])))) H := hF
  refine fw_vret X hF hS ?_ (Nat.le_of_ble_eq_true rfl) (Nat.le_of_ble_eq_true rfl) dX7_init_14
  exact ⟨rfl, rfl⟩
set_option maxHeartbeats 4000000 in
set_option maxRecDepth 100000 in
theorem c_X7_turn (l : Launch) (D : va_G) (cs : Nat → ClassId) (w : fW) (sz : Nat) (h0 : Nat) (sp tu : Int32) (di : Bool) (h : w h0 = some (cWh (sp, di, tu))) : gM l bs_B nw_B D cls10 (tyl cs) yX7_turn cX7_turn 1 (some .int) 0 0 0 0 w sz [.ref h0] (fun v w' => v = some (.int (whT (sp, di, tu))) ∧ w' = va_up w h0 (some (cWh (sp, di, tu + 1)))) := by
  refine gM.of (by decide +kernel) (Nat.le_of_ble_eq_true rfl) (fun p e s m below meth c A ls X hsz hnm hF hS hl => ?_)
  have hx := X.1
  have hb := X.2.1
  have hl : lv_has ls 1 [(0, .ref h0)] := hl
  have h : w h0 = some (.inr (7, [.int sp, .int (bz di), .int tu])) := h
  refine lv_aload_n hx hb dX7_turn_0 rfl (lv_at hl 0 rfl) ?_
  refine lv_dup hx hb dX7_turn_1 rfl ?_
  refine fw_get X gC_ok hF h rfl 2 (by decide) wm_246 rfl dX7_turn_2 ?_
  refine lv_iconst (v := 1) hx hb dX7_turn_5 (by decide) ?_
  refine lv_iadd hx hb dX7_turn_6 ?_
  refine fw_put X gC_ok hF hS h rfl 2 (by decide) wm_246 rfl (tf := .int) (by decide +kernel) rfl rfl (Nat.le_of_ble_eq_true rfl) dX7_turn_7 (fun H locs hF hS => ?_)
  have hF : fw_P D cls10 A (va_up w h0 (some (.inr (7, [.int sp, .int (bz di), .int (tu + 1)])))) H := hF
  refine lv_aload_n hx hb dX7_turn_10 rfl (lv_at hl 0 rfl) ?_
  refine fw_get X gC_ok hF (va_up_self _ _ _) rfl 2 (by decide) wm_246 rfl dX7_turn_11 ?_
  refine lv_aload_n hx hb dX7_turn_14 rfl (lv_at hl 0 rfl) ?_
  refine fw_get X gC_ok hF (va_up_self _ _ _) rfl 0 (by decide) wm_242 rfl dX7_turn_15 ?_
  refine lv_imul hx hb dX7_turn_18 ?_
  refine lv_aload_n hx hb dX7_turn_19 rfl (lv_at hl 0 rfl) ?_
  refine fw_get X gC_ok hF (va_up_self _ _ _) rfl 1 (by decide) wm_244 rfl dX7_turn_20 ?_
  refine gx_ifeq (tgt := 30) hx hb dX7_turn_23 (by decide) (fun c23_1 => ?_) (fun c23_1 => ?_)
  · refine lv_iconst (v := 0) hx hb dX7_turn_30 (by decide) ?_
    refine lv_iadd hx hb dX7_turn_31 ?_
    refine fw_iret X hF hS ?_ (Nat.le_of_ble_eq_true rfl) (Nat.le_of_ble_eq_true rfl) dX7_turn_32
    exact ⟨by simp [whT, bz, c23_1], rfl⟩
  · refine lv_iconst (v := 1) hx hb dX7_turn_26 (by decide) ?_
    refine lv_goto (tgt := 31) hx hb dX7_turn_27 (by decide) ?_
    refine lv_iadd hx hb dX7_turn_31 ?_
    refine fw_iret X hF hS ?_ (Nat.le_of_ble_eq_true rfl) (Nat.le_of_ble_eq_true rfl) dX7_turn_32
    exact ⟨by simp [whT, bz, c23_1], rfl⟩
set_option maxHeartbeats 4000000 in
set_option maxRecDepth 100000 in
theorem c_X7_label (l : Launch) (D : va_G) (cs : Nat → ClassId) (w : fW) (sz : Nat) (h0 : Nat) (sp tu : Int32) (di : Bool) (h : w h0 = some (cWh (sp, di, tu))) : gM l bs_B nw_B D cls10 (tyl cs) yX7_label cX7_label 1 (some .int) 0 0 0 0 w sz [.ref h0] (fun v w' => v = some (.int (whL (sp, di, tu))) ∧ w' = w) := by
  refine gM.of (by decide +kernel) (Nat.le_of_ble_eq_true rfl) (fun p e s m below meth c A ls X hsz hnm hF hS hl => ?_)
  have hx := X.1
  have hb := X.2.1
  have hl : lv_has ls 1 [(0, .ref h0)] := hl
  have h : w h0 = some (.inr (7, [.int sp, .int (bz di), .int tu])) := h
  refine lv_aload_n hx hb dX7_label_0 rfl (lv_at hl 0 rfl) ?_
  refine fw_get X gC_ok hF h rfl 1 (by decide) wm_244 rfl dX7_label_1 ?_
  refine gx_ifeq (tgt := 18) hx hb dX7_label_4 (by decide) (fun c4_1 => ?_) (fun c4_1 => ?_)
  · refine lv_aload_n hx hb dX7_label_18 rfl (lv_at hl 0 rfl) ?_
    refine fw_get X gC_ok hF h rfl 0 (by decide) wm_242 rfl dX7_label_19 ?_
    refine fw_iret X hF hS ?_ (Nat.le_of_ble_eq_true rfl) (Nat.le_of_ble_eq_true rfl) dX7_label_22
    exact ⟨by simp [whL, c4_1], rfl⟩
  · refine lv_sipush (v := 1000) hx hb dX7_label_7 (by decide) ?_
    refine lv_aload_n hx hb dX7_label_10 rfl (lv_at hl 0 rfl) ?_
    refine fw_get X gC_ok hF h rfl 0 (by decide) wm_242 rfl dX7_label_11 ?_
    refine lv_iadd hx hb dX7_label_14 ?_
    refine lv_goto (tgt := 22) hx hb dX7_label_15 (by decide) ?_
    refine fw_iret X hF hS ?_ (Nat.le_of_ble_eq_true rfl) (Nat.le_of_ble_eq_true rfl) dX7_label_22
    exact ⟨by simp [whL, c4_1], rfl⟩
set_option maxHeartbeats 4000000 in
set_option maxRecDepth 100000 in
theorem c_X5_init (l : Launch) (D : va_G) (cs : Nat → ClassId) (w : fW) (sz : Nat) (h0 : Nat) (bk : Bool) (fr : Int32) (fo re : Option Nat) (la ch : Int32) (h : w h0 = some (cSt (bk, fr, fo, re, la, ch))) : gM l bs_B nw_B D cls10 (tyl cs) yX5_init cX5_init 1 none 1 20 0 0 w sz [.ref h0] (fun v w' => v = none ∧ w' = w) := by
  refine gM.of (by decide +kernel) (Nat.le_of_ble_eq_true rfl) (fun p e s m below meth c A ls X hsz hnm hF hS hl => ?_)
  have hx := X.1
  have hb := X.2.1
  have hl : lv_has ls 1 [(0, .ref h0)] := hl
  have h : w h0 = some (.inr (5, [.int (bz bk), .int fr, va_rf fo, va_rf re, .int la, .int ch])) := h
  refine lv_aload_n hx hb dX5_init_0 rfl (lv_at hl 0 rfl) ?_
  refine W.objInit hx hb X.2.2.2.1 (X.2.2.2.2.1 _ wm_90) (X.2.2.2.2.1 _ wm_42) (X.2.2.2.2.1 _ wm_43) rfl (by rw [X.2.2.1]; exact hl.1) rfl dX5_init_1 (Nat.le_of_ble_eq_true rfl) (Nat.le_of_ble_eq_true rfl) ?_
  refine W.eq (g2 := F0 m 4 ls []) rfl ?_
  refine fw_vret X hF hS ?_ (Nat.le_of_ble_eq_true rfl) (Nat.le_of_ble_eq_true rfl) dX5_init_4
  exact ⟨rfl, rfl⟩
set_option maxHeartbeats 4000000 in
set_option maxRecDepth 100000 in
theorem c_X5_strip (l : Launch) (D : va_G) (cs : Nat → ClassId) (w : fW) (sz : Nat) (h0 : Nat) (bk : Bool) (fr : Int32) (fo re : Option Nat) (la ch : Int32) (h : w h0 = some (cSt (bk, fr, fo, re, la, ch))) : gM l bs_B nw_B D cls10 (tyl cs) yX5_strip cX5_strip 1 (some .long) 0 0 0 0 w sz [.ref h0] (fun v w' => v = some (.long 1) ∧ w' = va_up w h0 (some (cSt (false, 0, none, none, 0, 0)))) := by
  refine gM.of (by decide +kernel) (Nat.le_of_ble_eq_true rfl) (fun p e s m below meth c A ls X hsz hnm hF hS hl => ?_)
  have hx := X.1
  have hb := X.2.1
  have hl : lv_has ls 1 [(0, .ref h0)] := hl
  have h : w h0 = some (.inr (5, [.int (bz bk), .int fr, va_rf fo, va_rf re, .int la, .int ch])) := h
  refine lv_aload_n hx hb dX5_strip_0 rfl (lv_at hl 0 rfl) ?_
  refine lv_iconst (v := 0) hx hb dX5_strip_1 (by decide) ?_
  refine fw_put X gC_ok hF hS h rfl 0 (by decide) wm_91 rfl (tf := .boolean) (by decide +kernel) rfl rfl (Nat.le_of_ble_eq_true rfl) dX5_strip_2 (fun H locs hF hS => ?_)
  have hF : fw_P D cls10 A (va_up w h0 (some (.inr (5, [.int 0, .int fr, va_rf fo, va_rf re, .int la, .int ch])))) H := hF
  refine lv_aload_n hx hb dX5_strip_5 rfl (lv_at hl 0 rfl) ?_
  refine lv_iconst (v := 0) hx hb dX5_strip_6 (by decide) ?_
  refine fw_put X gC_ok hF hS (va_up_self _ _ _) rfl 1 (by decide) wm_93 rfl (tf := .int) (by decide +kernel) rfl rfl (Nat.le_of_ble_eq_true rfl) dX5_strip_7 (fun H locs hF hS => ?_)
  rw [bx_uu] at hF
  have hF : fw_P D cls10 A (va_up w h0 (some (.inr (5, [.int 0, .int 0, va_rf fo, va_rf re, .int la, .int ch])))) H := hF
  refine lv_aload_n hx hb dX5_strip_10 rfl (lv_at hl 0 rfl) ?_
  refine lv_null hx hb dX5_strip_11 ?_
  refine fw_put X gC_ok hF hS (va_up_self _ _ _) rfl 2 (by decide) wm_94 rfl (tf := .object "CycleShop$Wheel") (by decide +kernel) rfl rfl (Nat.le_of_ble_eq_true rfl) dX5_strip_12 (fun H locs hF hS => ?_)
  rw [bx_uu] at hF
  have hF : fw_P D cls10 A (va_up w h0 (some (.inr (5, [.int 0, .int 0, .null, va_rf re, .int la, .int ch])))) H := hF
  refine lv_aload_n hx hb dX5_strip_15 rfl (lv_at hl 0 rfl) ?_
  refine lv_null hx hb dX5_strip_16 ?_
  refine fw_put X gC_ok hF hS (va_up_self _ _ _) rfl 3 (by decide) wm_97 rfl (tf := .object "CycleShop$Wheel") (by decide +kernel) rfl rfl (Nat.le_of_ble_eq_true rfl) dX5_strip_17 (fun H locs hF hS => ?_)
  rw [bx_uu] at hF
  have hF : fw_P D cls10 A (va_up w h0 (some (.inr (5, [.int 0, .int 0, .null, .null, .int la, .int ch])))) H := hF
  refine lv_aload_n hx hb dX5_strip_20 rfl (lv_at hl 0 rfl) ?_
  refine lv_iconst (v := 0) hx hb dX5_strip_21 (by decide) ?_
  refine fw_put X gC_ok hF hS (va_up_self _ _ _) rfl 4 (by decide) wm_99 rfl (tf := .int) (by decide +kernel) rfl rfl (Nat.le_of_ble_eq_true rfl) dX5_strip_22 (fun H locs hF hS => ?_)
  rw [bx_uu] at hF
  have hF : fw_P D cls10 A (va_up w h0 (some (.inr (5, [.int 0, .int 0, .null, .null, .int 0, .int ch])))) H := hF
  refine lv_aload_n hx hb dX5_strip_25 rfl (lv_at hl 0 rfl) ?_
  refine lv_iconst (v := 0) hx hb dX5_strip_26 (by decide) ?_
  refine fw_put X gC_ok hF hS (va_up_self _ _ _) rfl 5 (by decide) wm_100 rfl (tf := .int) (by decide +kernel) rfl rfl (Nat.le_of_ble_eq_true rfl) dX5_strip_27 (fun H locs hF hS => ?_)
  rw [bx_uu] at hF
  have hF : fw_P D cls10 A (va_up w h0 (some (.inr (5, [.int 0, .int 0, .null, .null, .int 0, .int 0])))) H := hF
  refine lv_lconst (v := 1) hx hb dX5_strip_30 (by decide) ?_
  refine fw_lret X hF hS ?_ (Nat.le_of_ble_eq_true rfl) (Nat.le_of_ble_eq_true rfl) dX5_strip_31
  exact ⟨rfl, rfl⟩
set_option maxHeartbeats 4000000 in
set_option maxRecDepth 100000 in
theorem c_X5_build (l : Launch) (D : va_G) (cs : Nat → ClassId) (w : fW) (sz : Nat) (h0 : Nat) (bk : Bool) (fr : Int32) (fo re : Option Nat) (la ch : Int32) (h : w h0 = some (cSt (bk, fr, fo, re, la, ch))) (b : Int32) : gM l bs_B nw_B D cls10 (tyl cs) yX5_build cX5_build 2 (some .long) 1 20 0 0 w sz [.ref h0, .int b] (fun v w' => v = some (.long b.toInt64) ∧ w' = va_up w h0 (some (cSt (true, b, none, none, 0, 0)))) := by
  refine gM.of (by decide +kernel) (Nat.le_of_ble_eq_true rfl) (fun p e s m below meth c A ls X hsz hnm hF hS hl => ?_)
  have hx := X.1
  have hb := X.2.1
  have hl : lv_has ls 2 [(0, .ref h0), (1, .int b)] := hl
  have h : w h0 = some (.inr (5, [.int (bz bk), .int fr, va_rf fo, va_rf re, .int la, .int ch])) := h
  refine lv_aload_n hx hb dX5_build_0 rfl (lv_at hl 0 rfl) ?_
  refine fw_callV (As := []) (rest := []) X bs_all nw_all mf_X5_strip (c_X5_strip l D cs _ _ h0 bk fr fo re la ch h) wm_223 wm_224 wm_225 hF hS rfl h rfl rfl ((⟨⟨Nat.le_of_ble_eq_true rfl, Nat.le_of_ble_eq_true rfl⟩, Nat.le_of_ble_eq_true rfl, Nat.le_of_ble_eq_true rfl⟩)) rfl hl.1 rfl (Nat.le_of_ble_eq_true rfl) dX5_build_1 (fun v u1 H locs hp hF hS hz1 hk1 hd1 => ?_)
  obtain ⟨rfl, hw1⟩ := hp
  rw [hw1] at hF
  refine W.eq (g2 := F0 m 4 ls [.long 1]) rfl ?_
  refine lv_pop2_2 hx hb dX5_build_4 rfl ?_
  refine lv_aload_n hx hb dX5_build_5 rfl (lv_at hl 0 rfl) ?_
  refine lv_iconst (v := 1) hx hb dX5_build_6 (by decide) ?_
  refine fw_put X gC_ok hF hS (va_up_self _ _ _) rfl 0 (by decide) wm_91 rfl (tf := .boolean) (by decide +kernel) rfl rfl (Nat.le_of_ble_eq_true rfl) dX5_build_7 (fun H locs hF hS => ?_)
  have hF : fw_P D cls10 A (va_up (va_up w h0 (some (.inr (5, [.int (bz false), .int 0, va_rf none, va_rf none, .int 0, .int 0])))) h0 (some (.inr (5, [.int 1, .int 0, va_rf none, va_rf none, .int 0, .int 0])))) H := hF
  refine lv_aload_n hx hb dX5_build_10 rfl (lv_at hl 0 rfl) ?_
  refine lv_iload_n hx hb dX5_build_11 rfl (lv_at hl 1 rfl) ?_
  refine fw_put X gC_ok hF hS (va_up_self _ _ _) rfl 1 (by decide) wm_93 rfl (tf := .int) (by decide +kernel) rfl rfl (Nat.le_of_ble_eq_true rfl) dX5_build_12 (fun H locs hF hS => ?_)
  rw [bx_uu] at hF
  have hF : fw_P D cls10 A (va_up (va_up w h0 (some (.inr (5, [.int (bz false), .int 0, va_rf none, va_rf none, .int 0, .int 0])))) h0 (some (.inr (5, [.int 1, .int b, va_rf none, va_rf none, .int 0, .int 0])))) H := hF
  refine lv_iload_n hx hb dX5_build_15 rfl (lv_at hl 1 rfl) ?_
  refine lv_i2l hx hb dX5_build_16 rfl ?_
  refine fw_lret X hF hS ?_ (Nat.le_of_ble_eq_true rfl) (Nat.le_of_ble_eq_true rfl) dX5_build_17
  exact ⟨rfl, by simp only [bx_uu]; rfl⟩
set_option maxHeartbeats 4000000 in
set_option maxRecDepth 100000 in
theorem c_X5_wheel (l : Launch) (D : va_G) (cs : Nat → ClassId) (w : fW) (sz : Nat) (h0 : Nat) (bk : Bool) (fr : Int32) (fo re : Option Nat) (la ch : Int32) (h : w h0 = some (cSt (bk, fr, fo, re, la, ch))) (b : Int32) : gM l bs_B nw_B D cls10 (tyl cs) yX5_wheel cX5_wheel 2 (some (.object "CycleShop$Wheel")) 0 0 0 0 w sz [.ref h0, .int b] (fun v w' => v = some (va_rf (sdw b fo re)) ∧ w' = w) := by
  refine gM.of (by decide +kernel) (Nat.le_of_ble_eq_true rfl) (fun p e s m below meth c A ls X hsz hnm hF hS hl => ?_)
  have hx := X.1
  have hb := X.2.1
  have hl : lv_has ls 2 [(0, .ref h0), (1, .int b)] := hl
  have h : w h0 = some (.inr (5, [.int (bz bk), .int fr, va_rf fo, va_rf re, .int la, .int ch])) := h
  refine lv_iload_n hx hb dX5_wheel_0 rfl (lv_at hl 1 rfl) ?_
  refine lv_iconst (v := 1) hx hb dX5_wheel_1 (by decide) ?_
  refine lv_iand hx hb dX5_wheel_2 ?_
  refine lv_if_ne (tgt := 13) hx hb dX5_wheel_3 (by decide) (fun c3_1 => ?_) (fun c3_1 => ?_)
  · refine lv_aload_n hx hb dX5_wheel_13 rfl (lv_at hl 0 rfl) ?_
    refine fw_get X gC_ok hF h rfl 3 (by decide) wm_97 rfl dX5_wheel_14 ?_
    refine fw_aret (o := re) X hF hS ?_ (Nat.le_of_ble_eq_true rfl) (Nat.le_of_ble_eq_true rfl) dX5_wheel_17
    exact ⟨by simp [sdw, c3_1], rfl⟩
  · refine lv_aload_n hx hb dX5_wheel_6 rfl (lv_at hl 0 rfl) ?_
    refine fw_get X gC_ok hF h rfl 2 (by decide) wm_94 rfl dX5_wheel_7 ?_
    refine lv_goto (tgt := 17) hx hb dX5_wheel_10 (by decide) ?_
    refine fw_aret (o := fo) X hF hS ?_ (Nat.le_of_ble_eq_true rfl) (Nat.le_of_ble_eq_true rfl) dX5_wheel_17
    exact ⟨by simp [sdw, c3_1], rfl⟩
