set_option maxHeartbeats 4000000 in
set_option maxRecDepth 100000 in
theorem c_X5_light (l : Launch) (D : va_G) (cs : Nat → ClassId) (w : fW) (sz : Nat) (h0 : Nat) (bk : Bool) (fr : Int32) (fo re : Option Nat) (la ch : Int32) (h : w h0 = some (cSt (bk, fr, fo, re, la, ch))) (b k : Int32) : gM l bs_B nw_B D cls10 (tyl cs) yX5_light cX5_light 3 (some .long) 1 20 0 0 w sz [.ref h0, .int b, .int k] (fun v w' => v = some (.long (oc (spLight (bk, fr, fo, re, la, ch) b k).1)) ∧ w' = va_up w h0 (some (cSt (spLight (bk, fr, fo, re, la, ch) b k).2))) := by
  refine gM.of (by decide +kernel) (Nat.le_of_ble_eq_true rfl) (fun p e s m below meth c A ls X hsz hnm hF hS hl => ?_)
  have hx := X.1
  have hb := X.2.1
  have hl : lv_has ls 3 [(0, .ref h0), (1, .int b), (2, .int k)] := hl
  have h : w h0 = some (.inr (5, [.int (bz bk), .int fr, va_rf fo, va_rf re, .int la, .int ch])) := h
  refine lv_aload_n hx hb dX5_light_0 rfl (lv_at hl 0 rfl) ?_
  refine fw_get X gC_ok hF h rfl 0 (by decide) wm_91 rfl dX5_light_1 ?_
  refine gx_ifne (tgt := 12) hx hb dX5_light_4 (by decide) (fun c4_1 => ?_) (fun c4_1 => ?_)
  · refine lv_aload_n hx hb dX5_light_12 rfl (lv_at hl 0 rfl) ?_
    refine lv_iload_n hx hb dX5_light_13 rfl (lv_at hl 1 rfl) ?_
    refine lv_if_ne (tgt := 21) hx hb dX5_light_14 (by decide) (fun c14_2 => ?_) (fun c14_2 => ?_)
    · refine lv_iload_n hx hb dX5_light_21 rfl (lv_at hl 1 rfl) ?_
      refine lv_iconst (v := 1) hx hb dX5_light_22 (by decide) ?_
      refine lv_icmp_ne (tgt := 30) hx hb dX5_light_23 (by decide) (fun c23_3 => ?_) (fun c23_3 => ?_)
      · refine lv_iconst (v := 2) hx hb dX5_light_30 (by decide) ?_
        refine fw_put X gC_ok hF hS h rfl 4 (by decide) wm_99 rfl (tf := .int) (by decide +kernel) rfl rfl (Nat.le_of_ble_eq_true rfl) dX5_light_31 (fun H locs hF hS => ?_)
        have hF : fw_P D cls10 A (va_up w h0 (some (.inr (5, [.int (bz bk), .int fr, va_rf fo, va_rf re, .int 2, .int ch])))) H := hF
        refine lv_aload_n hx hb dX5_light_34 rfl (lv_at hl 0 rfl) ?_
        refine lv_aload_n hx hb dX5_light_35 rfl (lv_at hl 0 rfl) ?_
        refine fw_get X gC_ok hF (va_up_self _ _ _) rfl 4 (by decide) wm_99 rfl dX5_light_36 ?_
        refine lv_iconst (v := 2) hx hb dX5_light_39 (by decide) ?_
        refine lv_icmp_ne (tgt := 47) hx hb dX5_light_40 (by decide) (fun h => absurd h (by decide)) (fun _ => ?_)
        refine lv_iload_n hx hb dX5_light_43 rfl (lv_at hl 2 rfl) ?_
        refine lv_goto (tgt := 48) hx hb dX5_light_44 (by decide) ?_
        refine fw_put X gC_ok hF hS (va_up_self _ _ _) rfl 5 (by decide) wm_100 rfl (tf := .int) (by decide +kernel) rfl rfl (Nat.le_of_ble_eq_true rfl) dX5_light_48 (fun H locs hF hS => ?_)
        rw [bx_uu] at hF
        have hF : fw_P D cls10 A (va_up w h0 (some (.inr (5, [.int (bz bk), .int fr, va_rf fo, va_rf re, .int 2, .int k])))) H := hF
        refine lv_iload_n hx hb dX5_light_51 rfl (lv_at hl 1 rfl) ?_
        refine lv_i2l hx hb dX5_light_52 rfl ?_
        refine fw_lret X hF hS ?_ (Nat.le_of_ble_eq_true rfl) (Nat.le_of_ble_eq_true rfl) dX5_light_53
        refine ⟨by simp [spLight, lmp, oc, c4_1, c14_2, c23_3], ?_⟩
        simp [spLight, lmp, c4_1, c14_2, c23_3]
      · refine lv_iconst (v := 1) hx hb dX5_light_26 (by decide) ?_
        refine lv_goto (tgt := 31) hx hb dX5_light_27 (by decide) ?_
        refine fw_put X gC_ok hF hS h rfl 4 (by decide) wm_99 rfl (tf := .int) (by decide +kernel) rfl rfl (Nat.le_of_ble_eq_true rfl) dX5_light_31 (fun H locs hF hS => ?_)
        have hF : fw_P D cls10 A (va_up w h0 (some (.inr (5, [.int (bz bk), .int fr, va_rf fo, va_rf re, .int 1, .int ch])))) H := hF
        refine lv_aload_n hx hb dX5_light_34 rfl (lv_at hl 0 rfl) ?_
        refine lv_aload_n hx hb dX5_light_35 rfl (lv_at hl 0 rfl) ?_
        refine fw_get X gC_ok hF (va_up_self _ _ _) rfl 4 (by decide) wm_99 rfl dX5_light_36 ?_
        refine lv_iconst (v := 2) hx hb dX5_light_39 (by decide) ?_
        refine lv_icmp_ne (tgt := 47) hx hb dX5_light_40 (by decide) (fun _ => ?_) (fun h => absurd h (by decide))
        refine lv_iconst (v := 0) hx hb dX5_light_47 (by decide) ?_
        refine fw_put X gC_ok hF hS (va_up_self _ _ _) rfl 5 (by decide) wm_100 rfl (tf := .int) (by decide +kernel) rfl rfl (Nat.le_of_ble_eq_true rfl) dX5_light_48 (fun H locs hF hS => ?_)
        rw [bx_uu] at hF
        have hF : fw_P D cls10 A (va_up w h0 (some (.inr (5, [.int (bz bk), .int fr, va_rf fo, va_rf re, .int 1, .int 0])))) H := hF
        refine lv_iload_n hx hb dX5_light_51 rfl (lv_at hl 1 rfl) ?_
        refine lv_i2l hx hb dX5_light_52 rfl ?_
        refine fw_lret X hF hS ?_ (Nat.le_of_ble_eq_true rfl) (Nat.le_of_ble_eq_true rfl) dX5_light_53
        refine ⟨by simp [spLight, lmp, oc, c4_1, c14_2, c23_3], ?_⟩
        simp [spLight, lmp, c4_1, c14_2, c23_3]
    · refine lv_iconst (v := 0) hx hb dX5_light_17 (by decide) ?_
      refine lv_goto (tgt := 31) hx hb dX5_light_18 (by decide) ?_
      refine fw_put X gC_ok hF hS h rfl 4 (by decide) wm_99 rfl (tf := .int) (by decide +kernel) rfl rfl (Nat.le_of_ble_eq_true rfl) dX5_light_31 (fun H locs hF hS => ?_)
      have hF : fw_P D cls10 A (va_up w h0 (some (.inr (5, [.int (bz bk), .int fr, va_rf fo, va_rf re, .int 0, .int ch])))) H := hF
      refine lv_aload_n hx hb dX5_light_34 rfl (lv_at hl 0 rfl) ?_
      refine lv_aload_n hx hb dX5_light_35 rfl (lv_at hl 0 rfl) ?_
      refine fw_get X gC_ok hF (va_up_self _ _ _) rfl 4 (by decide) wm_99 rfl dX5_light_36 ?_
      refine lv_iconst (v := 2) hx hb dX5_light_39 (by decide) ?_
      refine lv_icmp_ne (tgt := 47) hx hb dX5_light_40 (by decide) (fun _ => ?_) (fun h => absurd h (by decide))
      refine lv_iconst (v := 0) hx hb dX5_light_47 (by decide) ?_
      refine fw_put X gC_ok hF hS (va_up_self _ _ _) rfl 5 (by decide) wm_100 rfl (tf := .int) (by decide +kernel) rfl rfl (Nat.le_of_ble_eq_true rfl) dX5_light_48 (fun H locs hF hS => ?_)
      rw [bx_uu] at hF
      have hF : fw_P D cls10 A (va_up w h0 (some (.inr (5, [.int (bz bk), .int fr, va_rf fo, va_rf re, .int 0, .int 0])))) H := hF
      refine lv_iload_n hx hb dX5_light_51 rfl (lv_at hl 1 rfl) ?_
      refine lv_i2l hx hb dX5_light_52 rfl ?_
      refine fw_lret X hF hS ?_ (Nat.le_of_ble_eq_true rfl) (Nat.le_of_ble_eq_true rfl) dX5_light_53
      refine ⟨by simp [spLight, lmp, oc, c4_1, c14_2], ?_⟩
      simp [spLight, lmp, c4_1, c14_2]
  · refine lv_iconst (v := 1) hx hb dX5_light_7 (by decide) ?_
    refine fw_callSN (As := [.int 1]) (rest := []) X bs_all nw_all mf_X8_failure (c_X8_failure l D cs _ _ 1) nm_232 wm_233 hF hS rfl ((⟨⟨Nat.le_of_ble_eq_true rfl, Nat.le_of_ble_eq_true rfl⟩, Nat.le_of_ble_eq_true rfl, Nat.le_of_ble_eq_true rfl⟩)) rfl hl.1 rfl (Nat.le_of_ble_eq_true rfl) dX5_light_8 (fun v u7 H locs hp hF hS hz1 hk1 hd1 => ?_)
    obtain ⟨rfl, hw1⟩ := hp
    rw [hw1] at hF
    refine W.eq (g2 := F0 m 11 ls [.long (fl 1)]) rfl ?_
    refine fw_lret X hF hS ?_ (Nat.le_of_ble_eq_true rfl) (Nat.le_of_ble_eq_true rfl) dX5_light_11
    refine ⟨by simp [spLight, lmp, oc, c4_1], ?_⟩
    refine (gx_upid ?_).symm
    simp [h, spLight, lmp, c4_1]
set_option maxHeartbeats 4000000 in
set_option maxRecDepth 100000 in
theorem c_X5_shine (l : Launch) (D : va_G) (cs : Nat → ClassId) (w : fW) (sz : Nat) (h0 : Nat) (bk : Bool) (fr : Int32) (fo re : Option Nat) (la ch : Int32) (h : w h0 = some (cSt (bk, fr, fo, re, la, ch))) (b : Int32) : gM l bs_B nw_B D cls10 (tyl cs) yX5_shine cX5_shine 2 (some .long) 1 20 0 0 w sz [.ref h0, .int b] (fun v w' => v = some (.long (oc (spShine (bk, fr, fo, re, la, ch) b).1)) ∧ w' = va_up w h0 (some (cSt (spShine (bk, fr, fo, re, la, ch) b).2))) := by
  refine gM.of (by decide +kernel) (Nat.le_of_ble_eq_true rfl) (fun p e s m below meth c A ls X hsz hnm hF hS hl => ?_)
  have hx := X.1
  have hb := X.2.1
  have hl : lv_has ls 2 [(0, .ref h0), (1, .int b)] := hl
  have h : w h0 = some (.inr (5, [.int (bz bk), .int fr, va_rf fo, va_rf re, .int la, .int ch])) := h
  refine lv_aload_n hx hb dX5_shine_0 rfl (lv_at hl 0 rfl) ?_
  refine fw_get X gC_ok hF h rfl 4 (by decide) wm_99 rfl dX5_shine_1 ?_
  refine lv_if_ne (tgt := 12) hx hb dX5_shine_4 (by decide) (fun c4_1 => ?_) (fun c4_1 => ?_)
  · refine lv_aload_n hx hb dX5_shine_12 rfl (lv_at hl 0 rfl) ?_
    refine fw_get X gC_ok hF h rfl 4 (by decide) wm_99 rfl dX5_shine_13 ?_
    refine lv_iconst (v := 1) hx hb dX5_shine_16 (by decide) ?_
    refine lv_icmp_ne (tgt := 25) hx hb dX5_shine_17 (by decide) (fun c17_2 => ?_) (fun c17_2 => ?_)
    · refine lv_aload_n hx hb dX5_shine_25 rfl (lv_at hl 0 rfl) ?_
      refine fw_get X gC_ok hF h rfl 5 (by decide) wm_100 rfl dX5_shine_26 ?_
      refine lv_if_gt (tgt := 34) hx hb dX5_shine_29 (by decide) (fun c29_3 => ?_) (fun c29_3 => ?_)
      · refine lv_aload_n hx hb dX5_shine_34 rfl (lv_at hl 0 rfl) ?_
        refine lv_dup hx hb dX5_shine_35 rfl ?_
        refine fw_get X gC_ok hF h rfl 5 (by decide) wm_100 rfl dX5_shine_36 ?_
        refine lv_iconst (v := 1) hx hb dX5_shine_39 (by decide) ?_
        refine lv_isub hx hb dX5_shine_40 ?_
        refine fw_put X gC_ok hF hS h rfl 5 (by decide) wm_100 rfl (tf := .int) (by decide +kernel) rfl rfl (Nat.le_of_ble_eq_true rfl) dX5_shine_41 (fun H locs hF hS => ?_)
        have hF : fw_P D cls10 A (va_up w h0 (some (.inr (5, [.int (bz bk), .int fr, va_rf fo, va_rf re, .int la, .int (ch - 1)])))) H := hF
        refine lv_iload_n hx hb dX5_shine_44 rfl (lv_at hl 1 rfl) ?_
        refine lv_i2l hx hb dX5_shine_45 rfl ?_
        refine fw_lret X hF hS ?_ (Nat.le_of_ble_eq_true rfl) (Nat.le_of_ble_eq_true rfl) dX5_shine_46
        refine ⟨by simp [spShine, oc, c4_1, c17_2, c29_3], ?_⟩
        simp [spShine, c4_1, c17_2, c29_3]
      · refine lv_lconst (v := 0) hx hb dX5_shine_32 (by decide) ?_
        refine fw_lret X hF hS ?_ (Nat.le_of_ble_eq_true rfl) (Nat.le_of_ble_eq_true rfl) dX5_shine_33
        refine ⟨by simp [spShine, oc, c4_1, c17_2, c29_3], ?_⟩
        refine (gx_upid ?_).symm
        simp [h, spShine, c4_1, c17_2, c29_3]
    · refine lv_iconst (v := 3) hx hb dX5_shine_20 (by decide) ?_
      refine lv_iload_n hx hb dX5_shine_21 rfl (lv_at hl 1 rfl) ?_
      refine lv_imul hx hb dX5_shine_22 ?_
      refine lv_i2l hx hb dX5_shine_23 rfl ?_
      refine fw_lret X hF hS ?_ (Nat.le_of_ble_eq_true rfl) (Nat.le_of_ble_eq_true rfl) dX5_shine_24
      refine ⟨by simp [spShine, oc, c4_1, c17_2], ?_⟩
      refine (gx_upid ?_).symm
      simp [h, spShine, c4_1, c17_2]
  · refine lv_iconst (v := 1) hx hb dX5_shine_7 (by decide) ?_
    refine fw_callSN (As := [.int 1]) (rest := []) X bs_all nw_all mf_X8_failure (c_X8_failure l D cs _ _ 1) nm_232 wm_233 hF hS rfl ((⟨⟨Nat.le_of_ble_eq_true rfl, Nat.le_of_ble_eq_true rfl⟩, Nat.le_of_ble_eq_true rfl, Nat.le_of_ble_eq_true rfl⟩)) rfl hl.1 rfl (Nat.le_of_ble_eq_true rfl) dX5_shine_8 (fun v u4 H locs hp hF hS hz1 hk1 hd1 => ?_)
    obtain ⟨rfl, hw1⟩ := hp
    rw [hw1] at hF
    refine W.eq (g2 := F0 m 11 ls [.long (fl 1)]) rfl ?_
    refine fw_lret X hF hS ?_ (Nat.le_of_ble_eq_true rfl) (Nat.le_of_ble_eq_true rfl) dX5_shine_11
    refine ⟨by simp [spShine, oc, c4_1], ?_⟩
    refine (gx_upid ?_).symm
    simp [h, spShine, c4_1]
set_option maxHeartbeats 4000000 in
set_option maxRecDepth 100000 in
theorem c_X5_tell (l : Launch) (D : va_G) (cs : Nat → ClassId) (w : fW) (sz : Nat) (h0 : Nat) (bk : Bool) (fr : Int32) (fo re : Option Nat) (la ch : Int32) (h : w h0 = some (cSt (bk, fr, fo, re, la, ch))) (kk : Int32) (W9 : Nat → aWh) (hfo : ∀ q, fo = some q → w q = some (cWh (W9 q))) (hre : ∀ q, re = some q → w q = some (cWh (W9 q))) : gM l bs_B nw_B D cls10 (tyl cs) yX5_tell cX5_tell 2 (some .int) 0 0 0 0 w sz [.ref h0, .int kk] (fun v w' => v = some (.int (spTell W9 (bk, fr, fo, re, la, ch) kk)) ∧ w' = w) := by
  refine gM.of (by decide +kernel) (Nat.le_of_ble_eq_true rfl) (fun p e s m below meth c A ls X hsz hnm hF hS hl => ?_)
  have hx := X.1
  have hb := X.2.1
  have hl : lv_has ls 2 [(0, .ref h0), (1, .int kk)] := hl
  have h : w h0 = some (.inr (5, [.int (bz bk), .int fr, va_rf fo, va_rf re, .int la, .int ch])) := h
  refine lv_iload_n hx hb dX5_tell_0 rfl (lv_at hl 1 rfl) ?_
  rcases gx_sw8 kk with sw1 | sw1 | sw1 | sw1 | sw1 | sw1 | sw1 | sw1 | sw1
  · refine lv_tableIn (off := 47) (tgt := 48) hx hb dX5_tell_1 (by rw [sw1]; decide) (by rw [sw1]; decide) (by rw [sw1]; rfl) (by decide) ?_
    refine lv_aload_n hx hb dX5_tell_48 rfl (lv_at hl 0 rfl) ?_
    refine fw_get X gC_ok hF h rfl 0 (by decide) wm_91 rfl dX5_tell_49 ?_
    refine gx_ifeq (tgt := 59) hx hb dX5_tell_52 (by decide) (fun c52_2 => ?_) (fun c52_2 => ?_)
    · refine lv_iconst (v := 0) hx hb dX5_tell_59 (by decide) ?_
      refine fw_iret X hF hS ?_ (Nat.le_of_ble_eq_true rfl) (Nat.le_of_ble_eq_true rfl) dX5_tell_60
      exact ⟨by simp [spTell, oSp, oTu, bz, sw1, c52_2], rfl⟩
    · refine lv_iconst (v := 1) hx hb dX5_tell_55 (by decide) ?_
      refine lv_goto (tgt := 60) hx hb dX5_tell_56 (by decide) ?_
      refine fw_iret X hF hS ?_ (Nat.le_of_ble_eq_true rfl) (Nat.le_of_ble_eq_true rfl) dX5_tell_60
      exact ⟨by simp [spTell, oSp, oTu, bz, sw1, c52_2], rfl⟩
  · refine lv_tableIn (off := 60) (tgt := 61) hx hb dX5_tell_1 (by rw [sw1]; decide) (by rw [sw1]; decide) (by rw [sw1]; rfl) (by decide) ?_
    refine lv_aload_n hx hb dX5_tell_61 rfl (lv_at hl 0 rfl) ?_
    refine fw_get X gC_ok hF h rfl 1 (by decide) wm_93 rfl dX5_tell_62 ?_
    refine fw_iret X hF hS ?_ (Nat.le_of_ble_eq_true rfl) (Nat.le_of_ble_eq_true rfl) dX5_tell_65
    exact ⟨by simp [spTell, oSp, oTu, bz, sw1], rfl⟩
  · refine lv_tableIn (off := 65) (tgt := 66) hx hb dX5_tell_1 (by rw [sw1]; decide) (by rw [sw1]; decide) (by rw [sw1]; rfl) (by decide) ?_
    refine lv_aload_n hx hb dX5_tell_66 rfl (lv_at hl 0 rfl) ?_
    refine fw_get X gC_ok hF h rfl 2 (by decide) wm_94 rfl dX5_tell_67 ?_
    refine gx_ifnonnull (tgt := 77) hx hb dX5_tell_70 (by decide) (fun hq3 => ?_) (fun q3 hq3 => ?_)
    · subst hq3
      have h : w h0 = some (.inr (5, [.int (bz bk), .int fr, .null, va_rf re, .int la, .int ch])) := h
      refine lv_iconst (v := 0) hx hb dX5_tell_73 (by decide) ?_
      refine lv_goto (tgt := 84) hx hb dX5_tell_74 (by decide) ?_
      refine fw_iret X hF hS ?_ (Nat.le_of_ble_eq_true rfl) (Nat.le_of_ble_eq_true rfl) dX5_tell_84
      exact ⟨by simp [spTell, oSp, oTu, bz, sw1], rfl⟩
    · subst hq3
      have h : w h0 = some (.inr (5, [.int (bz bk), .int fr, .ref q3, va_rf re, .int la, .int ch])) := h
      refine lv_aload_n hx hb dX5_tell_77 rfl (lv_at hl 0 rfl) ?_
      refine fw_get X gC_ok hF h rfl 2 (by decide) wm_94 rfl dX5_tell_78 ?_
      refine fw_get X gC_ok hF (hfo _ rfl) rfl 0 (by decide) wm_243 rfl dX5_tell_81 ?_
      refine fw_iret X hF hS ?_ (Nat.le_of_ble_eq_true rfl) (Nat.le_of_ble_eq_true rfl) dX5_tell_84
      exact ⟨by simp [spTell, oSp, oTu, bz, sw1], rfl⟩
  · refine lv_tableIn (off := 84) (tgt := 85) hx hb dX5_tell_1 (by rw [sw1]; decide) (by rw [sw1]; decide) (by rw [sw1]; rfl) (by decide) ?_
    refine lv_aload_n hx hb dX5_tell_85 rfl (lv_at hl 0 rfl) ?_
    refine fw_get X gC_ok hF h rfl 3 (by decide) wm_97 rfl dX5_tell_86 ?_
    refine gx_ifnonnull (tgt := 96) hx hb dX5_tell_89 (by decide) (fun hq4 => ?_) (fun q4 hq4 => ?_)
    · subst hq4
      have h : w h0 = some (.inr (5, [.int (bz bk), .int fr, va_rf fo, .null, .int la, .int ch])) := h
      refine lv_iconst (v := 0) hx hb dX5_tell_92 (by decide) ?_
      refine lv_goto (tgt := 103) hx hb dX5_tell_93 (by decide) ?_
      refine fw_iret X hF hS ?_ (Nat.le_of_ble_eq_true rfl) (Nat.le_of_ble_eq_true rfl) dX5_tell_103
      exact ⟨by simp [spTell, oSp, oTu, bz, sw1], rfl⟩
    · subst hq4
      have h : w h0 = some (.inr (5, [.int (bz bk), .int fr, va_rf fo, .ref q4, .int la, .int ch])) := h
      refine lv_aload_n hx hb dX5_tell_96 rfl (lv_at hl 0 rfl) ?_
      refine fw_get X gC_ok hF h rfl 3 (by decide) wm_97 rfl dX5_tell_97 ?_
      refine fw_get X gC_ok hF (hre _ rfl) rfl 0 (by decide) wm_243 rfl dX5_tell_100 ?_
      refine fw_iret X hF hS ?_ (Nat.le_of_ble_eq_true rfl) (Nat.le_of_ble_eq_true rfl) dX5_tell_103
      exact ⟨by simp [spTell, oSp, oTu, bz, sw1], rfl⟩
  · refine lv_tableIn (off := 103) (tgt := 104) hx hb dX5_tell_1 (by rw [sw1]; decide) (by rw [sw1]; decide) (by rw [sw1]; rfl) (by decide) ?_
    refine lv_aload_n hx hb dX5_tell_104 rfl (lv_at hl 0 rfl) ?_
    refine fw_get X gC_ok hF h rfl 2 (by decide) wm_94 rfl dX5_tell_105 ?_
    refine gx_ifnonnull (tgt := 115) hx hb dX5_tell_108 (by decide) (fun hq5 => ?_) (fun q5 hq5 => ?_)
    · subst hq5
      have h : w h0 = some (.inr (5, [.int (bz bk), .int fr, .null, va_rf re, .int la, .int ch])) := h
      refine lv_iconst (v := 0) hx hb dX5_tell_111 (by decide) ?_
      refine lv_goto (tgt := 122) hx hb dX5_tell_112 (by decide) ?_
      refine fw_iret X hF hS ?_ (Nat.le_of_ble_eq_true rfl) (Nat.le_of_ble_eq_true rfl) dX5_tell_122
      exact ⟨by simp [spTell, oSp, oTu, bz, sw1], rfl⟩
    · subst hq5
      have h : w h0 = some (.inr (5, [.int (bz bk), .int fr, .ref q5, va_rf re, .int la, .int ch])) := h
      refine lv_aload_n hx hb dX5_tell_115 rfl (lv_at hl 0 rfl) ?_
      refine fw_get X gC_ok hF h rfl 2 (by decide) wm_94 rfl dX5_tell_116 ?_
      refine fw_get X gC_ok hF (hfo _ rfl) rfl 2 (by decide) wm_248 rfl dX5_tell_119 ?_
      refine fw_iret X hF hS ?_ (Nat.le_of_ble_eq_true rfl) (Nat.le_of_ble_eq_true rfl) dX5_tell_122
      exact ⟨by simp [spTell, oSp, oTu, bz, sw1], rfl⟩
  · refine lv_tableIn (off := 122) (tgt := 123) hx hb dX5_tell_1 (by rw [sw1]; decide) (by rw [sw1]; decide) (by rw [sw1]; rfl) (by decide) ?_
    refine lv_aload_n hx hb dX5_tell_123 rfl (lv_at hl 0 rfl) ?_
    refine fw_get X gC_ok hF h rfl 3 (by decide) wm_97 rfl dX5_tell_124 ?_
    refine gx_ifnonnull (tgt := 134) hx hb dX5_tell_127 (by decide) (fun hq6 => ?_) (fun q6 hq6 => ?_)
    · subst hq6
      have h : w h0 = some (.inr (5, [.int (bz bk), .int fr, va_rf fo, .null, .int la, .int ch])) := h
      refine lv_iconst (v := 0) hx hb dX5_tell_130 (by decide) ?_
      refine lv_goto (tgt := 141) hx hb dX5_tell_131 (by decide) ?_
      refine fw_iret X hF hS ?_ (Nat.le_of_ble_eq_true rfl) (Nat.le_of_ble_eq_true rfl) dX5_tell_141
      exact ⟨by simp [spTell, oSp, oTu, bz, sw1], rfl⟩
    · subst hq6
      have h : w h0 = some (.inr (5, [.int (bz bk), .int fr, va_rf fo, .ref q6, .int la, .int ch])) := h
      refine lv_aload_n hx hb dX5_tell_134 rfl (lv_at hl 0 rfl) ?_
      refine fw_get X gC_ok hF h rfl 3 (by decide) wm_97 rfl dX5_tell_135 ?_
      refine fw_get X gC_ok hF (hre _ rfl) rfl 2 (by decide) wm_248 rfl dX5_tell_138 ?_
      refine fw_iret X hF hS ?_ (Nat.le_of_ble_eq_true rfl) (Nat.le_of_ble_eq_true rfl) dX5_tell_141
      exact ⟨by simp [spTell, oSp, oTu, bz, sw1], rfl⟩
  · refine lv_tableIn (off := 158) (tgt := 159) hx hb dX5_tell_1 (by rw [sw1]; decide) (by rw [sw1]; decide) (by rw [sw1]; rfl) (by decide) ?_
    refine lv_ldc (v := (-2147483648)) hx hb X.2.2.2.1 (X.2.2.2.2.1 _ wm_447) dX5_tell_159 ?_
    refine fw_iret X hF hS ?_ (Nat.le_of_ble_eq_true rfl) (Nat.le_of_ble_eq_true rfl) dX5_tell_161
    exact ⟨by simp [spTell, oSp, oTu, bz, sw1], rfl⟩
  · refine lv_tableIn (off := 141) (tgt := 142) hx hb dX5_tell_1 (by rw [sw1]; decide) (by rw [sw1]; decide) (by rw [sw1]; rfl) (by decide) ?_
    refine lv_aload_n hx hb dX5_tell_142 rfl (lv_at hl 0 rfl) ?_
    refine fw_get X gC_ok hF h rfl 4 (by decide) wm_99 rfl dX5_tell_143 ?_
    refine lv_iconst (v := 1) hx hb dX5_tell_146 (by decide) ?_
    refine lv_icmp_ne (tgt := 154) hx hb dX5_tell_147 (by decide) (fun c147_7 => ?_) (fun c147_7 => ?_)
    · refine lv_aload_n hx hb dX5_tell_154 rfl (lv_at hl 0 rfl) ?_
      refine fw_get X gC_ok hF h rfl 5 (by decide) wm_100 rfl dX5_tell_155 ?_
      refine fw_iret X hF hS ?_ (Nat.le_of_ble_eq_true rfl) (Nat.le_of_ble_eq_true rfl) dX5_tell_158
      exact ⟨by simp [spTell, oSp, oTu, bz, sw1, c147_7], rfl⟩
    · refine lv_iconst (v := (-1)) hx hb dX5_tell_150 (by decide) ?_
      refine lv_goto (tgt := 158) hx hb dX5_tell_151 (by decide) ?_
      refine fw_iret X hF hS ?_ (Nat.le_of_ble_eq_true rfl) (Nat.le_of_ble_eq_true rfl) dX5_tell_158
      exact ⟨by simp [spTell, oSp, oTu, bz, sw1, c147_7], rfl⟩
  · refine lv_tableOut (tgt := 159) hx hb dX5_tell_1 sw1 (by decide) ?_
    have n0 : ¬ kk = 0 := fun q => by rw [q] at sw1; revert sw1; decide
    have n1 : ¬ kk = 1 := fun q => by rw [q] at sw1; revert sw1; decide
    have n2 : ¬ kk = 2 := fun q => by rw [q] at sw1; revert sw1; decide
    have n3 : ¬ kk = 3 := fun q => by rw [q] at sw1; revert sw1; decide
    have n4 : ¬ kk = 4 := fun q => by rw [q] at sw1; revert sw1; decide
    have n5 : ¬ kk = 5 := fun q => by rw [q] at sw1; revert sw1; decide
    have n6 : ¬ kk = 6 := fun q => by rw [q] at sw1; revert sw1; decide
    have n7 : ¬ kk = 7 := fun q => by rw [q] at sw1; revert sw1; decide
    refine lv_ldc (v := (-2147483648)) hx hb X.2.2.2.1 (X.2.2.2.2.1 _ wm_447) dX5_tell_159 ?_
    refine fw_iret X hF hS ?_ (Nat.le_of_ble_eq_true rfl) (Nat.le_of_ble_eq_true rfl) dX5_tell_161
    exact ⟨by simp [spTell, oSp, oTu, bz, n0, n1, n2, n3, n4, n5, n6, n7], rfl⟩
set_option maxHeartbeats 4000000 in
set_option maxRecDepth 100000 in
theorem c_X5_trueWheel (l : Launch) (D : va_G) (cs : Nat → ClassId) (w : fW) (sz : Nat) (h0 : Nat) (bk : Bool) (fr : Int32) (fo re : Option Nat) (la ch : Int32) (h : w h0 = some (cSt (bk, fr, fo, re, la, ch))) (b : Int32) (W9 : Nat → aWh) (hso : ∀ q, sdw b fo re = some q → w q = some (cWh (W9 q))) : gM l bs_B nw_B D cls10 (tyl cs) yX5_trueWheel cX5_trueWheel 3 (some .long) 1 21 0 0 w sz [.ref h0, .int b] (fun v w' => (sdw b fo re = none ∧ v = some (.long (fl 1)) ∧ w' = w) ∨ (∃ q, sdw b fo re = some q ∧ v = some (.long (whT (W9 q)).toInt64) ∧ w' = va_up w q (some (cWh ((W9 q).1, (W9 q).2.1, (W9 q).2.2 + 1))))) := by
  refine gM.of (by decide +kernel) (Nat.le_of_ble_eq_true rfl) (fun p e s m below meth c A ls X hsz hnm hF hS hl => ?_)
  have hx := X.1
  have hb := X.2.1
  have hl : lv_has ls 3 [(0, .ref h0), (1, .int b)] := hl
  have h : w h0 = some (.inr (5, [.int (bz bk), .int fr, va_rf fo, va_rf re, .int la, .int ch])) := h
  refine lv_aload_n hx hb dX5_trueWheel_0 rfl (lv_at hl 0 rfl) ?_
  refine lv_iload_n hx hb dX5_trueWheel_1 rfl (lv_at hl 1 rfl) ?_
  refine fw_callV (As := [.int b]) (rest := []) X bs_all nw_all mf_X5_wheel (c_X5_wheel l D cs _ _ h0 bk fr fo re la ch h b) wm_260 wm_261 wm_262 hF hS rfl h rfl rfl ((⟨⟨Nat.le_of_ble_eq_true rfl, Nat.le_of_ble_eq_true rfl⟩, Nat.le_of_ble_eq_true rfl, Nat.le_of_ble_eq_true rfl⟩)) rfl hl.1 rfl (Nat.le_of_ble_eq_true rfl) dX5_trueWheel_2 (fun v u1 H locs hp hF hS hz1 hk1 hd1 => ?_)
  obtain ⟨rfl, hw1⟩ := hp
  rw [hw1] at hF
  refine W.eq (g2 := F0 m 5 ls [va_rf (sdw b fo re)]) rfl ?_
  refine gx_astore_nq (i := 2) (lv' := [(2, va_rf (sdw b fo re)), (0, .ref h0), (1, .int b)]) hx hb dX5_trueWheel_5 rfl hl (by decide) (by simp [gx_cat, Value.category]) (fun ls hl => ?_)
  refine gx_aload_nq hx hb dX5_trueWheel_6 rfl (lv_at hl 0 rfl) ?_
  refine gx_ifnonnull (tgt := 17) hx hb dX5_trueWheel_7 (by decide) (fun hq2 => ?_) (fun q2 hq2 => ?_)
  · have hl : lv_has ls 3 [(2, .null), (0, .ref h0), (1, .int b)] := by rw [hq2] at hl; exact hl
    refine lv_iconst (v := 1) hx hb dX5_trueWheel_10 (by decide) ?_
    refine fw_callSN (As := [.int 1]) (rest := []) X bs_all nw_all mf_X8_failure (c_X8_failure l D cs _ _ 1) nm_232 wm_233 hF hS rfl ((⟨⟨Nat.le_of_ble_eq_true rfl, Nat.le_of_ble_eq_true rfl⟩, Nat.le_of_ble_eq_true rfl, Nat.le_of_ble_eq_true rfl⟩)) rfl hl.1 rfl (Nat.le_of_ble_eq_true rfl) dX5_trueWheel_11 (fun v u3 H locs hp hF hS hz1 hk1 hd1 => ?_)
    obtain ⟨rfl, hw1⟩ := hp
    rw [hw1] at hF
    refine W.eq (g2 := F0 m 14 ls [.long (fl 1)]) rfl ?_
    refine lv_goto (tgt := 22) hx hb dX5_trueWheel_14 (by decide) ?_
    refine fw_lret X hF hS ?_ (Nat.le_of_ble_eq_true rfl) (Nat.le_of_ble_eq_true rfl) dX5_trueWheel_22
    exact Or.inl ⟨hq2, rfl, rfl⟩
  · have hl : lv_has ls 3 [(2, .ref q2), (0, .ref h0), (1, .int b)] := by rw [hq2] at hl; exact hl
    refine lv_aload_n hx hb dX5_trueWheel_17 rfl (lv_at hl 0 rfl) ?_
    refine fw_callV (As := []) (rest := []) X bs_all nw_all mf_X7_turn (c_X7_turn l D cs _ _ q2 ((W9 q2).1) ((W9 q2).2.2) ((W9 q2).2.1) (hso q2 hq2)) wm_264 wm_265 wm_266 hF hS rfl (hso q2 hq2) rfl rfl ((⟨⟨Nat.le_of_ble_eq_true rfl, Nat.le_of_ble_eq_true rfl⟩, Nat.le_of_ble_eq_true rfl, Nat.le_of_ble_eq_true rfl⟩)) rfl hl.1 rfl (Nat.le_of_ble_eq_true rfl) dX5_trueWheel_18 (fun v u4 H locs hp hF hS hz1 hk1 hd1 => ?_)
    obtain ⟨rfl, hw1⟩ := hp
    rw [hw1] at hF
    refine W.eq (g2 := F0 m 21 ls [.int (whT ((W9 q2).1, (W9 q2).2.1, (W9 q2).2.2))]) rfl ?_
    refine lv_i2l hx hb dX5_trueWheel_21 rfl ?_
    refine fw_lret X hF hS ?_ (Nat.le_of_ble_eq_true rfl) (Nat.le_of_ble_eq_true rfl) dX5_trueWheel_22
    exact Or.inr ⟨q2, hq2, rfl, rfl⟩
set_option maxHeartbeats 4000000 in
set_option maxRecDepth 100000 in
theorem c_X5_countSpokes (l : Launch) (D : va_G) (cs : Nat → ClassId) (w : fW) (sz : Nat) (h0 : Nat) (bk : Bool) (fr : Int32) (fo re : Option Nat) (la ch : Int32) (h : w h0 = some (cSt (bk, fr, fo, re, la, ch))) (b : Int32) (W9 : Nat → aWh) (hso : ∀ q, sdw b fo re = some q → w q = some (cWh (W9 q))) : gM l bs_B nw_B D cls10 (tyl cs) yX5_countSpokes cX5_countSpokes 3 (some .long) 1 21 0 0 w sz [.ref h0, .int b] (fun v w' => (sdw b fo re = none ∧ v = some (.long (fl 1)) ∧ w' = w) ∨ (∃ q, sdw b fo re = some q ∧ v = some (.long (W9 q).1.toInt64) ∧ w' = w)) := by
  refine gM.of (by decide +kernel) (Nat.le_of_ble_eq_true rfl) (fun p e s m below meth c A ls X hsz hnm hF hS hl => ?_)
  have hx := X.1
  have hb := X.2.1
  have hl : lv_has ls 3 [(0, .ref h0), (1, .int b)] := hl
  have h : w h0 = some (.inr (5, [.int (bz bk), .int fr, va_rf fo, va_rf re, .int la, .int ch])) := h
  refine lv_aload_n hx hb dX5_countSpokes_0 rfl (lv_at hl 0 rfl) ?_
  refine lv_iload_n hx hb dX5_countSpokes_1 rfl (lv_at hl 1 rfl) ?_
  refine fw_callV (As := [.int b]) (rest := []) X bs_all nw_all mf_X5_wheel (c_X5_wheel l D cs _ _ h0 bk fr fo re la ch h b) wm_260 wm_261 wm_262 hF hS rfl h rfl rfl ((⟨⟨Nat.le_of_ble_eq_true rfl, Nat.le_of_ble_eq_true rfl⟩, Nat.le_of_ble_eq_true rfl, Nat.le_of_ble_eq_true rfl⟩)) rfl hl.1 rfl (Nat.le_of_ble_eq_true rfl) dX5_countSpokes_2 (fun v u1 H locs hp hF hS hz1 hk1 hd1 => ?_)
  obtain ⟨rfl, hw1⟩ := hp
  rw [hw1] at hF
  refine W.eq (g2 := F0 m 5 ls [va_rf (sdw b fo re)]) rfl ?_
  refine gx_astore_nq (i := 2) (lv' := [(2, va_rf (sdw b fo re)), (0, .ref h0), (1, .int b)]) hx hb dX5_countSpokes_5 rfl hl (by decide) (by simp [gx_cat, Value.category]) (fun ls hl => ?_)
  refine gx_aload_nq hx hb dX5_countSpokes_6 rfl (lv_at hl 0 rfl) ?_
  refine gx_ifnonnull (tgt := 17) hx hb dX5_countSpokes_7 (by decide) (fun hq2 => ?_) (fun q2 hq2 => ?_)
  · have hl : lv_has ls 3 [(2, .null), (0, .ref h0), (1, .int b)] := by rw [hq2] at hl; exact hl
    refine lv_iconst (v := 1) hx hb dX5_countSpokes_10 (by decide) ?_
    refine fw_callSN (As := [.int 1]) (rest := []) X bs_all nw_all mf_X8_failure (c_X8_failure l D cs _ _ 1) nm_232 wm_233 hF hS rfl ((⟨⟨Nat.le_of_ble_eq_true rfl, Nat.le_of_ble_eq_true rfl⟩, Nat.le_of_ble_eq_true rfl, Nat.le_of_ble_eq_true rfl⟩)) rfl hl.1 rfl (Nat.le_of_ble_eq_true rfl) dX5_countSpokes_11 (fun v u3 H locs hp hF hS hz1 hk1 hd1 => ?_)
    obtain ⟨rfl, hw1⟩ := hp
    rw [hw1] at hF
    refine W.eq (g2 := F0 m 14 ls [.long (fl 1)]) rfl ?_
    refine lv_goto (tgt := 22) hx hb dX5_countSpokes_14 (by decide) ?_
    refine fw_lret X hF hS ?_ (Nat.le_of_ble_eq_true rfl) (Nat.le_of_ble_eq_true rfl) dX5_countSpokes_22
    exact Or.inl ⟨hq2, rfl, rfl⟩
  · have hl : lv_has ls 3 [(2, .ref q2), (0, .ref h0), (1, .int b)] := by rw [hq2] at hl; exact hl
    refine lv_aload_n hx hb dX5_countSpokes_17 rfl (lv_at hl 0 rfl) ?_
    refine fw_get X gC_ok hF (hso q2 hq2) rfl 0 (by decide) wm_243 rfl dX5_countSpokes_18 ?_
    refine lv_i2l hx hb dX5_countSpokes_21 rfl ?_
    refine fw_lret X hF hS ?_ (Nat.le_of_ble_eq_true rfl) (Nat.le_of_ble_eq_true rfl) dX5_countSpokes_22
    exact Or.inr ⟨q2, hq2, rfl, rfl⟩
set_option maxHeartbeats 4000000 in
set_option maxRecDepth 100000 in
theorem c_X5_fit (l : Launch) (D : va_G) (cs : Nat → ClassId) (w : fW) (sz : Nat) (h0 : Nat) (bk : Bool) (fr : Int32) (fo re : Option Nat) (la ch : Int32) (h : w h0 = some (cSt (bk, fr, fo, re, la, ch))) (b k : Int32) : gM l bs_B nw_B D cls10 (tyl cs) yX5_fit cX5_fit 5 (some .long) 2 42 1 3 w sz [.ref h0, .int b, .int k] (fun v w' => (bk = false ∧ v = some (.long (fl 1)) ∧ w' = w) ∨ (bk = true ∧ k = 0 ∧ v = some (.long k.toInt64) ∧ w' = va_up w h0 (some (cSt (sdset b (bk, fr, fo, re, la, ch) none)))) ∨ (bk = true ∧ ¬ k = 0 ∧ v = some (.long k.toInt64) ∧ ∃ q, w q = none ∧ w' = va_up (va_up w q (some (cWh (whN k)))) h0 (some (cSt (sdset b (bk, fr, fo, re, la, ch) (some q)))))) := by
  refine gM.of (by decide +kernel) (Nat.le_of_ble_eq_true rfl) (fun p e s m below meth c A ls X hsz hnm hF hS hl => ?_)
  have hx := X.1
  have hb := X.2.1
  have hl : lv_has ls 5 [(0, .ref h0), (1, .int b), (2, .int k)] := hl
  have h : w h0 = some (.inr (5, [.int (bz bk), .int fr, va_rf fo, va_rf re, .int la, .int ch])) := h
  refine lv_aload_n hx hb dX5_fit_0 rfl (lv_at hl 0 rfl) ?_
  refine fw_get X gC_ok hF h rfl 0 (by decide) wm_91 rfl dX5_fit_1 ?_
  refine gx_ifne (tgt := 12) hx hb dX5_fit_4 (by decide) (fun c4_1 => ?_) (fun c4_1 => ?_)
  · refine lv_iload_n hx hb dX5_fit_12 rfl (lv_at hl 2 rfl) ?_
    refine lv_bipush (v := 100) hx hb dX5_fit_13 (by decide) ?_
    refine lv_icmp_lt (tgt := 22) hx hb dX5_fit_15 (by decide) (fun c15_2 => ?_) (fun c15_2 => ?_)
    · refine lv_iconst (v := 0) hx hb dX5_fit_22 (by decide) ?_
      refine lv_istore_n (lv' := [(3, .int 0), (0, .ref h0), (1, .int b), (2, .int k)]) hx hb dX5_fit_23 rfl hl (by decide) rfl (fun ls hl => ?_)
      refine lv_iload_n hx hb dX5_fit_24 rfl (lv_at hl 3 rfl) ?_
      refine lv_if_ne (tgt := 32) hx hb dX5_fit_25 (by decide) (fun c25_3 => ?_) (fun c25_3 => ?_)
      · refine fw_new (ci := 7) (fs := [.int 0, .int 0, .int 0]) X gC_ok hF hS rfl tyX7 tyX7_ok (by decide +kernel) wm_236 wm_237 wm_33 (Nat.le_of_ble_eq_true rfl) (Nat.le_of_ble_eq_true rfl) dX5_fit_32 (fun q4 H nq4 zq4 zzq4 hF hS => ?_)
        refine lv_dup hx hb dX5_fit_35 rfl ?_
        refine lv_iload_n hx hb dX5_fit_36 rfl (lv_at hl 0 rfl) ?_
        refine lv_if_eq (tgt := 47) hx hb dX5_fit_37 (by decide) (fun _ => ?_) (fun h => absurd rfl h)
        refine lv_iload_n hx hb dX5_fit_47 rfl (lv_at hl 3 rfl) ?_
        refine lv_iload_n hx hb dX5_fit_48 rfl (lv_at hl 0 rfl) ?_
        refine fw_callI (As := [.int k, .int 0]) (rest := [.ref q4]) X bs_all nw_all mf_X7_init (c_X7_init l D cs _ _ q4 k 0 false (va_up_self _ _ _)) wm_238 wm_239 rfl hF hS rfl ((⟨⟨Nat.le_of_ble_eq_true rfl, Nat.le_of_ble_eq_true rfl⟩, Nat.le_of_ble_eq_true rfl, Nat.le_of_ble_eq_true rfl⟩)) rfl hl.1 rfl (Nat.le_of_ble_eq_true rfl) dX5_fit_49 (fun v u6 H locs hp hF hS hz1 hk1 hd1 => ?_)
        obtain ⟨rfl, hw1⟩ := hp
        rw [hw1] at hF
        refine W.eq (g2 := F0 m 52 ls [.ref q4]) rfl ?_
        refine lv_astore (lv' := [(4, .ref q4), (3, .int 0), (0, .ref h0), (1, .int b), (2, .int k)]) hx hb dX5_fit_52 hl (by decide) rfl (fun ls hl => ?_)
        refine lv_iload_n hx hb dX5_fit_54 rfl (lv_at hl 3 rfl) ?_
        refine lv_iconst (v := 1) hx hb dX5_fit_55 (by decide) ?_
        refine lv_iand hx hb dX5_fit_56 ?_
        refine lv_if_ne (tgt := 69) hx hb dX5_fit_57 (by decide) (fun c57_7 => ?_) (fun c57_7 => ?_)
        · refine lv_aload_n hx hb dX5_fit_69 rfl (lv_at hl 2 rfl) ?_
          refine lv_aload hx hb dX5_fit_70 (lv_at hl 0 rfl) ?_
          refine fw_put X gC_ok hF hS ((va_up_ne _ _ (gx_ne h nq4)).trans ((va_up_ne _ _ (gx_ne h nq4)).trans h)) rfl 3 (by decide) wm_97 rfl (tf := .object "CycleShop$Wheel") (by decide +kernel) rfl rfl (Nat.le_of_ble_eq_true rfl) dX5_fit_72 (fun H locs hF hS => ?_)
          have hF : fw_P D cls10 A (va_up (va_up (va_up w q4 (some (.inr (7, [.int 0, .int 0, .int 0])))) q4 (some (.inr (7, [.int k, .int (bz false), .int 0])))) h0 (some (.inr (5, [.int (bz bk), .int fr, va_rf fo, .ref q4, .int la, .int ch])))) H := hF
          refine lv_iload_n hx hb dX5_fit_75 rfl (lv_at hl 4 rfl) ?_
          refine lv_i2l hx hb dX5_fit_76 rfl ?_
          refine fw_lret X hF hS ?_ (Nat.le_of_ble_eq_true rfl) (Nat.le_of_ble_eq_true rfl) dX5_fit_77
          refine Or.inr (Or.inr ⟨c4_1, c25_3, rfl, q4, nq4, ?_⟩)
          simp [sdset, whN, bx_uu, c4_1, c15_2, c25_3, c57_7]
          rfl
        · refine lv_aload_n hx hb dX5_fit_60 rfl (lv_at hl 2 rfl) ?_
          refine lv_aload hx hb dX5_fit_61 (lv_at hl 0 rfl) ?_
          refine fw_put X gC_ok hF hS ((va_up_ne _ _ (gx_ne h nq4)).trans ((va_up_ne _ _ (gx_ne h nq4)).trans h)) rfl 2 (by decide) wm_94 rfl (tf := .object "CycleShop$Wheel") (by decide +kernel) rfl rfl (Nat.le_of_ble_eq_true rfl) dX5_fit_63 (fun H locs hF hS => ?_)
          have hF : fw_P D cls10 A (va_up (va_up (va_up w q4 (some (.inr (7, [.int 0, .int 0, .int 0])))) q4 (some (.inr (7, [.int k, .int (bz false), .int 0])))) h0 (some (.inr (5, [.int (bz bk), .int fr, .ref q4, va_rf re, .int la, .int ch])))) H := hF
          refine lv_goto (tgt := 75) hx hb dX5_fit_66 (by decide) ?_
          refine lv_iload_n hx hb dX5_fit_75 rfl (lv_at hl 4 rfl) ?_
          refine lv_i2l hx hb dX5_fit_76 rfl ?_
          refine fw_lret X hF hS ?_ (Nat.le_of_ble_eq_true rfl) (Nat.le_of_ble_eq_true rfl) dX5_fit_77
          refine Or.inr (Or.inr ⟨c4_1, c25_3, rfl, q4, nq4, ?_⟩)
          simp [sdset, whN, bx_uu, c4_1, c15_2, c25_3, c57_7]
          rfl
      · refine lv_null hx hb dX5_fit_28 ?_
        refine lv_goto (tgt := 52) hx hb dX5_fit_29 (by decide) ?_
        refine lv_astoreN (lv' := [(4, .null), (3, .int 0), (0, .ref h0), (1, .int b), (2, .int k)]) hx hb dX5_fit_52 hl (by decide) rfl (fun ls hl => ?_)
        refine lv_iload_n hx hb dX5_fit_54 rfl (lv_at hl 3 rfl) ?_
        refine lv_iconst (v := 1) hx hb dX5_fit_55 (by decide) ?_
        refine lv_iand hx hb dX5_fit_56 ?_
        refine lv_if_ne (tgt := 69) hx hb dX5_fit_57 (by decide) (fun c57_8 => ?_) (fun c57_8 => ?_)
        · refine lv_aload_n hx hb dX5_fit_69 rfl (lv_at hl 2 rfl) ?_
          refine lv_aloadN hx hb dX5_fit_70 (lv_at hl 0 rfl) ?_
          refine fw_put X gC_ok hF hS h rfl 3 (by decide) wm_97 rfl (tf := .object "CycleShop$Wheel") (by decide +kernel) rfl rfl (Nat.le_of_ble_eq_true rfl) dX5_fit_72 (fun H locs hF hS => ?_)
          have hF : fw_P D cls10 A (va_up w h0 (some (.inr (5, [.int (bz bk), .int fr, va_rf fo, .null, .int la, .int ch])))) H := hF
          refine lv_iload_n hx hb dX5_fit_75 rfl (lv_at hl 4 rfl) ?_
          refine lv_i2l hx hb dX5_fit_76 rfl ?_
          refine fw_lret X hF hS ?_ (Nat.le_of_ble_eq_true rfl) (Nat.le_of_ble_eq_true rfl) dX5_fit_77
          refine Or.inr (Or.inl ⟨c4_1, c25_3, rfl, ?_⟩)
          simp [sdset, c4_1, c15_2, c25_3, c57_8]
          rfl
        · refine lv_aload_n hx hb dX5_fit_60 rfl (lv_at hl 2 rfl) ?_
          refine lv_aloadN hx hb dX5_fit_61 (lv_at hl 0 rfl) ?_
          refine fw_put X gC_ok hF hS h rfl 2 (by decide) wm_94 rfl (tf := .object "CycleShop$Wheel") (by decide +kernel) rfl rfl (Nat.le_of_ble_eq_true rfl) dX5_fit_63 (fun H locs hF hS => ?_)
          have hF : fw_P D cls10 A (va_up w h0 (some (.inr (5, [.int (bz bk), .int fr, .null, va_rf re, .int la, .int ch])))) H := hF
          refine lv_goto (tgt := 75) hx hb dX5_fit_66 (by decide) ?_
          refine lv_iload_n hx hb dX5_fit_75 rfl (lv_at hl 4 rfl) ?_
          refine lv_i2l hx hb dX5_fit_76 rfl ?_
          refine fw_lret X hF hS ?_ (Nat.le_of_ble_eq_true rfl) (Nat.le_of_ble_eq_true rfl) dX5_fit_77
          refine Or.inr (Or.inl ⟨c4_1, c25_3, rfl, ?_⟩)
          simp [sdset, c4_1, c15_2, c25_3, c57_8]
          rfl
    · refine lv_iconst (v := 1) hx hb dX5_fit_18 (by decide) ?_
      refine lv_goto (tgt := 23) hx hb dX5_fit_19 (by decide) ?_
      refine lv_istore_n (lv' := [(3, .int 1), (0, .ref h0), (1, .int b), (2, .int k)]) hx hb dX5_fit_23 rfl hl (by decide) rfl (fun ls hl => ?_)
      refine lv_iload_n hx hb dX5_fit_24 rfl (lv_at hl 3 rfl) ?_
      refine lv_if_ne (tgt := 32) hx hb dX5_fit_25 (by decide) (fun c25_9 => ?_) (fun c25_9 => ?_)
      · refine fw_new (ci := 7) (fs := [.int 0, .int 0, .int 0]) X gC_ok hF hS rfl tyX7 tyX7_ok (by decide +kernel) wm_236 wm_237 wm_33 (Nat.le_of_ble_eq_true rfl) (Nat.le_of_ble_eq_true rfl) dX5_fit_32 (fun q10 H nq10 zq10 zzq10 hF hS => ?_)
        refine lv_dup hx hb dX5_fit_35 rfl ?_
        refine lv_iload_n hx hb dX5_fit_36 rfl (lv_at hl 0 rfl) ?_
        refine lv_if_eq (tgt := 47) hx hb dX5_fit_37 (by decide) (fun h => absurd h (by decide)) (fun _ => ?_)
        refine lv_iload_n hx hb dX5_fit_40 rfl (lv_at hl 3 rfl) ?_
        refine lv_bipush (v := 100) hx hb dX5_fit_41 (by decide) ?_
        refine lv_isub hx hb dX5_fit_43 ?_
        refine lv_goto (tgt := 48) hx hb dX5_fit_44 (by decide) ?_
        refine lv_iload_n hx hb dX5_fit_48 rfl (lv_at hl 0 rfl) ?_
        refine fw_callI (As := [.int (k - 100), .int 1]) (rest := [.ref q10]) X bs_all nw_all mf_X7_init (c_X7_init l D cs _ _ q10 (k - 100) 0 true (va_up_self _ _ _)) wm_238 wm_239 rfl hF hS rfl ((⟨⟨Nat.le_of_ble_eq_true rfl, Nat.le_of_ble_eq_true rfl⟩, Nat.le_of_ble_eq_true rfl, Nat.le_of_ble_eq_true rfl⟩)) rfl hl.1 rfl (Nat.le_of_ble_eq_true rfl) dX5_fit_49 (fun v u12 H locs hp hF hS hz1 hk1 hd1 => ?_)
        obtain ⟨rfl, hw1⟩ := hp
        rw [hw1] at hF
        refine W.eq (g2 := F0 m 52 ls [.ref q10]) rfl ?_
        refine lv_astore (lv' := [(4, .ref q10), (3, .int 1), (0, .ref h0), (1, .int b), (2, .int k)]) hx hb dX5_fit_52 hl (by decide) rfl (fun ls hl => ?_)
        refine lv_iload_n hx hb dX5_fit_54 rfl (lv_at hl 3 rfl) ?_
        refine lv_iconst (v := 1) hx hb dX5_fit_55 (by decide) ?_
        refine lv_iand hx hb dX5_fit_56 ?_
        refine lv_if_ne (tgt := 69) hx hb dX5_fit_57 (by decide) (fun c57_13 => ?_) (fun c57_13 => ?_)
        · refine lv_aload_n hx hb dX5_fit_69 rfl (lv_at hl 2 rfl) ?_
          refine lv_aload hx hb dX5_fit_70 (lv_at hl 0 rfl) ?_
          refine fw_put X gC_ok hF hS ((va_up_ne _ _ (gx_ne h nq10)).trans ((va_up_ne _ _ (gx_ne h nq10)).trans h)) rfl 3 (by decide) wm_97 rfl (tf := .object "CycleShop$Wheel") (by decide +kernel) rfl rfl (Nat.le_of_ble_eq_true rfl) dX5_fit_72 (fun H locs hF hS => ?_)
          have hF : fw_P D cls10 A (va_up (va_up (va_up w q10 (some (.inr (7, [.int 0, .int 0, .int 0])))) q10 (some (.inr (7, [.int (k - 100), .int (bz true), .int 0])))) h0 (some (.inr (5, [.int (bz bk), .int fr, va_rf fo, .ref q10, .int la, .int ch])))) H := hF
          refine lv_iload_n hx hb dX5_fit_75 rfl (lv_at hl 4 rfl) ?_
          refine lv_i2l hx hb dX5_fit_76 rfl ?_
          refine fw_lret X hF hS ?_ (Nat.le_of_ble_eq_true rfl) (Nat.le_of_ble_eq_true rfl) dX5_fit_77
          refine Or.inr (Or.inr ⟨c4_1, c25_9, rfl, q10, nq10, ?_⟩)
          simp [sdset, whN, bx_uu, c4_1, c15_2, c25_9, c57_13]
          rfl
        · refine lv_aload_n hx hb dX5_fit_60 rfl (lv_at hl 2 rfl) ?_
          refine lv_aload hx hb dX5_fit_61 (lv_at hl 0 rfl) ?_
          refine fw_put X gC_ok hF hS ((va_up_ne _ _ (gx_ne h nq10)).trans ((va_up_ne _ _ (gx_ne h nq10)).trans h)) rfl 2 (by decide) wm_94 rfl (tf := .object "CycleShop$Wheel") (by decide +kernel) rfl rfl (Nat.le_of_ble_eq_true rfl) dX5_fit_63 (fun H locs hF hS => ?_)
          have hF : fw_P D cls10 A (va_up (va_up (va_up w q10 (some (.inr (7, [.int 0, .int 0, .int 0])))) q10 (some (.inr (7, [.int (k - 100), .int (bz true), .int 0])))) h0 (some (.inr (5, [.int (bz bk), .int fr, .ref q10, va_rf re, .int la, .int ch])))) H := hF
          refine lv_goto (tgt := 75) hx hb dX5_fit_66 (by decide) ?_
          refine lv_iload_n hx hb dX5_fit_75 rfl (lv_at hl 4 rfl) ?_
          refine lv_i2l hx hb dX5_fit_76 rfl ?_
          refine fw_lret X hF hS ?_ (Nat.le_of_ble_eq_true rfl) (Nat.le_of_ble_eq_true rfl) dX5_fit_77
          refine Or.inr (Or.inr ⟨c4_1, c25_9, rfl, q10, nq10, ?_⟩)
          simp [sdset, whN, bx_uu, c4_1, c15_2, c25_9, c57_13]
          rfl
      · refine lv_null hx hb dX5_fit_28 ?_
        refine lv_goto (tgt := 52) hx hb dX5_fit_29 (by decide) ?_
        refine lv_astoreN (lv' := [(4, .null), (3, .int 1), (0, .ref h0), (1, .int b), (2, .int k)]) hx hb dX5_fit_52 hl (by decide) rfl (fun ls hl => ?_)
        refine lv_iload_n hx hb dX5_fit_54 rfl (lv_at hl 3 rfl) ?_
        refine lv_iconst (v := 1) hx hb dX5_fit_55 (by decide) ?_
        refine lv_iand hx hb dX5_fit_56 ?_
        refine lv_if_ne (tgt := 69) hx hb dX5_fit_57 (by decide) (fun c57_14 => ?_) (fun c57_14 => ?_)
        · refine lv_aload_n hx hb dX5_fit_69 rfl (lv_at hl 2 rfl) ?_
          refine lv_aloadN hx hb dX5_fit_70 (lv_at hl 0 rfl) ?_
          refine fw_put X gC_ok hF hS h rfl 3 (by decide) wm_97 rfl (tf := .object "CycleShop$Wheel") (by decide +kernel) rfl rfl (Nat.le_of_ble_eq_true rfl) dX5_fit_72 (fun H locs hF hS => ?_)
          have hF : fw_P D cls10 A (va_up w h0 (some (.inr (5, [.int (bz bk), .int fr, va_rf fo, .null, .int la, .int ch])))) H := hF
          refine lv_iload_n hx hb dX5_fit_75 rfl (lv_at hl 4 rfl) ?_
          refine lv_i2l hx hb dX5_fit_76 rfl ?_
          refine fw_lret X hF hS ?_ (Nat.le_of_ble_eq_true rfl) (Nat.le_of_ble_eq_true rfl) dX5_fit_77
          refine Or.inr (Or.inl ⟨c4_1, c25_9, rfl, ?_⟩)
          simp [sdset, c4_1, c15_2, c25_9, c57_14]
          rfl
        · refine lv_aload_n hx hb dX5_fit_60 rfl (lv_at hl 2 rfl) ?_
          refine lv_aloadN hx hb dX5_fit_61 (lv_at hl 0 rfl) ?_
          refine fw_put X gC_ok hF hS h rfl 2 (by decide) wm_94 rfl (tf := .object "CycleShop$Wheel") (by decide +kernel) rfl rfl (Nat.le_of_ble_eq_true rfl) dX5_fit_63 (fun H locs hF hS => ?_)
          have hF : fw_P D cls10 A (va_up w h0 (some (.inr (5, [.int (bz bk), .int fr, .null, va_rf re, .int la, .int ch])))) H := hF
          refine lv_goto (tgt := 75) hx hb dX5_fit_66 (by decide) ?_
          refine lv_iload_n hx hb dX5_fit_75 rfl (lv_at hl 4 rfl) ?_
          refine lv_i2l hx hb dX5_fit_76 rfl ?_
          refine fw_lret X hF hS ?_ (Nat.le_of_ble_eq_true rfl) (Nat.le_of_ble_eq_true rfl) dX5_fit_77
          refine Or.inr (Or.inl ⟨c4_1, c25_9, rfl, ?_⟩)
          simp [sdset, c4_1, c15_2, c25_9, c57_14]
          rfl
  · refine lv_iconst (v := 1) hx hb dX5_fit_7 (by decide) ?_
    refine fw_callSN (As := [.int 1]) (rest := []) X bs_all nw_all mf_X8_failure (c_X8_failure l D cs _ _ 1) nm_232 wm_233 hF hS rfl ((⟨⟨Nat.le_of_ble_eq_true rfl, Nat.le_of_ble_eq_true rfl⟩, Nat.le_of_ble_eq_true rfl, Nat.le_of_ble_eq_true rfl⟩)) rfl hl.1 rfl (Nat.le_of_ble_eq_true rfl) dX5_fit_8 (fun v u15 H locs hp hF hS hz1 hk1 hd1 => ?_)
    obtain ⟨rfl, hw1⟩ := hp
    rw [hw1] at hF
    refine W.eq (g2 := F0 m 11 ls [.long (fl 1)]) rfl ?_
    refine fw_lret X hF hS ?_ (Nat.le_of_ble_eq_true rfl) (Nat.le_of_ble_eq_true rfl) dX5_fit_11
    exact Or.inl ⟨c4_1, rfl, rfl⟩
