set_option maxHeartbeats 4000000 in
set_option maxRecDepth 100000 in
theorem c_X8_perform (l : Launch) (D : va_G) (cs : Nat → ClassId) (w : fW) (sz : Nat) (ad : Nat → Nat) (T : Sg) (jf : Nat → Nat → Option Nat) (hW : SW cs ad T jf w) (hI : Inv T) (k a b d : Int32) (hok : okS k a b d = true) : gM l bs_B nw_B D cls10 (tyl cs) yX8_perform cX8_perform 5 (some .long) 3 66 1 3 w sz [.ref (ad 0), .int k, .int a, .int b, .int d] (fun v w' => ∃ q, w q = none ∧ v = some (.long (oc (spDo q k a b d T).1)) ∧ SW cs ad (spDo q k a b d T).2 jf w') := by
  refine gM.of (by decide +kernel) (Nat.le_of_ble_eq_true rfl) (fun p e s m below meth c A ls X hsz hnm hF hS hl => ?_)
  have hx := X.1
  have hb := X.2.1
  have hl : lv_has ls 5 [(0, .ref (ad 0)), (1, .int k), (2, .int a), (3, .int b), (4, .int d)] := hl
  have ha := ok_a hok
  have hA9 : ix a < 4 := wi_lt ha (N := 4) (by decide)
  have hfr : w sz = none := hF.fresh (by omega)
  refine lv_iload_n hx hb dX8_perform_0 rfl (lv_at hl 1 rfl) ?_
  rcases gx_sw17 k with sw1 | sw1 | sw1 | sw1 | sw1 | sw1 | sw1 | sw1 | sw1 | sw1 | sw1 | sw1 | sw1 | sw1 | sw1 | sw1 | sw1 | sw1
  · refine lv_tableIn (off := 83) (tgt := 84) hx hb dX8_perform_1 (by rw [sw1]; decide) (by rw [sw1]; decide) (by rw [sw1]; rfl) (by decide) ?_
    subst sw1
    refine lv_aload_n hx hb dX8_perform_84 rfl (lv_at hl 0 rfl) ?_
    refine fw_get X gC_ok hF (hW.2.1) rfl 0 (by decide) wm_176 rfl dX8_perform_85 ?_
    refine lv_iload_n hx hb dX8_perform_88 rfl (lv_at hl 2 rfl) ?_
    refine fw_aldq X hF (hW.2.2.1) 2 rfl (wi_in ha (N := 4) (by decide)) (v := some (ad (10 + (ix a)))) rfl dX8_perform_89 ?_
    refine W.eq (g2 := F0 m 90 ls [.ref (ad (10 + (ix a)))]) rfl ?_
    refine lv_iload_n hx hb dX8_perform_90 rfl (lv_at hl 3 rfl) ?_
    refine fw_callV (As := [.int b]) (rest := []) X bs_all nw_all mf_X5_build (c_X5_build l D cs _ _ (ad (10 + (ix a))) ((tSt T (ix a)).1) ((tSt T (ix a)).2.1) ((tSt T (ix a)).2.2.1) ((tSt T (ix a)).2.2.2.1) ((tSt T (ix a)).2.2.2.2.1) ((tSt T (ix a)).2.2.2.2.2) (hW.2.2.2.2.2.2.2.2.2.2.1 (ix a) hA9) b) wm_219 wm_220 wm_221 hF hS rfl (hW.2.2.2.2.2.2.2.2.2.2.1 (ix a) hA9) rfl rfl ((⟨⟨Nat.le_of_ble_eq_true rfl, Nat.le_of_ble_eq_true rfl⟩, Nat.le_of_ble_eq_true rfl, Nat.le_of_ble_eq_true rfl⟩)) rfl hl.1 rfl (Nat.le_of_ble_eq_true rfl) dX8_perform_91 (fun v u2 H locs hp hF hS hz1 hk1 hd1 => ?_)
    obtain ⟨rfl, hw1⟩ := hp
    rw [hw1] at hF
    refine W.eq (g2 := F0 m 94 ls [.long b.toInt64]) rfl ?_
    refine fw_lret X hF hS ?_ (Nat.le_of_ble_eq_true rfl) (Nat.le_of_ble_eq_true rfl) dX8_perform_94
    have e9 : spDo sz 0 a b d T = ((0, b), setSt T (ix a) (true, b, none, none, 0, 0)) := by simp [spDo]
    exact ⟨sz, hfr, by rw [e9]; first | done | rfl, by rw [e9]; exact hW.st hA9 _⟩
  · refine lv_tableIn (off := 94) (tgt := 95) hx hb dX8_perform_1 (by rw [sw1]; decide) (by rw [sw1]; decide) (by rw [sw1]; rfl) (by decide) ?_
    subst sw1
    refine lv_aload_n hx hb dX8_perform_95 rfl (lv_at hl 0 rfl) ?_
    refine fw_get X gC_ok hF (hW.2.1) rfl 0 (by decide) wm_176 rfl dX8_perform_96 ?_
    refine lv_iload_n hx hb dX8_perform_99 rfl (lv_at hl 2 rfl) ?_
    refine fw_aldq X hF (hW.2.2.1) 2 rfl (wi_in ha (N := 4) (by decide)) (v := some (ad (10 + (ix a)))) rfl dX8_perform_100 ?_
    refine W.eq (g2 := F0 m 101 ls [.ref (ad (10 + (ix a)))]) rfl ?_
    refine fw_callV (As := []) (rest := []) X bs_all nw_all mf_X5_strip (c_X5_strip l D cs _ _ (ad (10 + (ix a))) ((tSt T (ix a)).1) ((tSt T (ix a)).2.1) ((tSt T (ix a)).2.2.1) ((tSt T (ix a)).2.2.2.1) ((tSt T (ix a)).2.2.2.2.1) ((tSt T (ix a)).2.2.2.2.2) (hW.2.2.2.2.2.2.2.2.2.2.1 (ix a) hA9)) wm_227 wm_224 wm_225 hF hS rfl (hW.2.2.2.2.2.2.2.2.2.2.1 (ix a) hA9) rfl rfl ((⟨⟨Nat.le_of_ble_eq_true rfl, Nat.le_of_ble_eq_true rfl⟩, Nat.le_of_ble_eq_true rfl, Nat.le_of_ble_eq_true rfl⟩)) rfl hl.1 rfl (Nat.le_of_ble_eq_true rfl) dX8_perform_101 (fun v u3 H locs hp hF hS hz1 hk1 hd1 => ?_)
    obtain ⟨rfl, hw1⟩ := hp
    rw [hw1] at hF
    refine W.eq (g2 := F0 m 104 ls [.long 1]) rfl ?_
    refine fw_lret X hF hS ?_ (Nat.le_of_ble_eq_true rfl) (Nat.le_of_ble_eq_true rfl) dX8_perform_104
    have e9 : spDo sz 1 a b d T = ((0, 1), setSt T (ix a) (false, 0, none, none, 0, 0)) := by simp [spDo]
    exact ⟨sz, hfr, by rw [e9]; first | done | rfl, by rw [e9]; exact hW.st hA9 _⟩
  · refine lv_tableIn (off := 104) (tgt := 105) hx hb dX8_perform_1 (by rw [sw1]; decide) (by rw [sw1]; decide) (by rw [sw1]; rfl) (by decide) ?_
    subst sw1
    refine lv_aload_n hx hb dX8_perform_105 rfl (lv_at hl 0 rfl) ?_
    refine fw_get X gC_ok hF (hW.2.1) rfl 0 (by decide) wm_176 rfl dX8_perform_106 ?_
    refine lv_iload_n hx hb dX8_perform_109 rfl (lv_at hl 2 rfl) ?_
    refine fw_aldq X hF (hW.2.2.1) 2 rfl (wi_in ha (N := 4) (by decide)) (v := some (ad (10 + (ix a)))) rfl dX8_perform_110 ?_
    refine W.eq (g2 := F0 m 111 ls [.ref (ad (10 + (ix a)))]) rfl ?_
    refine lv_iload_n hx hb dX8_perform_111 rfl (lv_at hl 3 rfl) ?_
    refine lv_iload hx hb dX8_perform_112 (lv_at hl 4 rfl) ?_
    refine fw_callV (As := [.int b, .int d]) (rest := []) X bs_all nw_all mf_X5_fit (c_X5_fit l D cs _ _ (ad (10 + (ix a))) ((tSt T (ix a)).1) ((tSt T (ix a)).2.1) ((tSt T (ix a)).2.2.1) ((tSt T (ix a)).2.2.2.1) ((tSt T (ix a)).2.2.2.2.1) ((tSt T (ix a)).2.2.2.2.2) (hW.2.2.2.2.2.2.2.2.2.2.1 (ix a) hA9) b d) wm_228 wm_229 wm_230 hF hS rfl (hW.2.2.2.2.2.2.2.2.2.2.1 (ix a) hA9) rfl rfl ((⟨⟨Nat.le_of_ble_eq_true rfl, Nat.le_of_ble_eq_true rfl⟩, Nat.le_of_ble_eq_true rfl, Nat.le_of_ble_eq_true rfl⟩)) rfl hl.1 rfl (Nat.le_of_ble_eq_true rfl) dX8_perform_114 (fun v u4 H locs hp hF hS hz1 hk1 hd1 => ?_)
    rcases hp with ⟨k1, rfl, hw1⟩ | ⟨k1, k2, rfl, hw1⟩ | ⟨k1, k2, rfl, q9, k3, hw1⟩
    · rw [hw1] at hF
      refine W.eq (g2 := F0 m 117 ls [.long (fl 1)]) rfl ?_
      refine fw_lret X hF hS ?_ (Nat.le_of_ble_eq_true rfl) (Nat.le_of_ble_eq_true rfl) dX8_perform_117
      have e9 : spDo sz 2 a b d T = ((1, 0), T) := by simp [spDo, spFit, k1]
      exact ⟨sz, hfr, by rw [e9]; first | done | rfl, by rw [e9]; exact hW⟩
    · rw [hw1] at hF
      refine W.eq (g2 := F0 m 117 ls [.long d.toInt64]) rfl ?_
      refine fw_lret X hF hS ?_ (Nat.le_of_ble_eq_true rfl) (Nat.le_of_ble_eq_true rfl) dX8_perform_117
      have e9 : spDo sz 2 a b d T = ((0, d), setSt T (ix a) (sdset b (tSt T (ix a)) none)) := by simp [spDo, spFit, k1, k2]
      exact ⟨sz, hfr, by rw [e9]; first | done | rfl, by rw [e9]; exact hW.st hA9 _⟩
    · rw [hw1] at hF
      refine W.eq (g2 := F0 m 117 ls [.long d.toInt64]) rfl ?_
      refine fw_lret X hF hS ?_ (Nat.le_of_ble_eq_true rfl) (Nat.le_of_ble_eq_true rfl) dX8_perform_117
      have e9 : spDo q9 2 a b d T = ((0, d), setSt (setWh T q9 (whN d)) (ix a) (sdset b (tSt T (ix a)) (some q9))) := by simp [spDo, spFit, k1, k2]
      exact ⟨q9, k3, by rw [e9]; first | done | rfl, by rw [e9]; exact (hW.wh (q := q9) (fs := []) (Or.inr k3) (whN d)).st hA9 _⟩
  · refine lv_tableIn (off := 117) (tgt := 118) hx hb dX8_perform_1 (by rw [sw1]; decide) (by rw [sw1]; decide) (by rw [sw1]; rfl) (by decide) ?_
    subst sw1
    refine lv_aload_n hx hb dX8_perform_118 rfl (lv_at hl 0 rfl) ?_
    refine fw_get X gC_ok hF (hW.2.1) rfl 0 (by decide) wm_176 rfl dX8_perform_119 ?_
    refine lv_iload_n hx hb dX8_perform_122 rfl (lv_at hl 2 rfl) ?_
    refine fw_aldq X hF (hW.2.2.1) 2 rfl (wi_in ha (N := 4) (by decide)) (v := some (ad (10 + (ix a)))) rfl dX8_perform_123 ?_
    refine W.eq (g2 := F0 m 124 ls [.ref (ad (10 + (ix a)))]) rfl ?_
    refine lv_iload_n hx hb dX8_perform_124 rfl (lv_at hl 3 rfl) ?_
    refine fw_callV (As := [.int b]) (rest := []) X bs_all nw_all mf_X5_trueWheel (c_X5_trueWheel l D cs _ _ (ad (10 + (ix a))) ((tSt T (ix a)).1) ((tSt T (ix a)).2.1) ((tSt T (ix a)).2.2.1) ((tSt T (ix a)).2.2.2.1) ((tSt T (ix a)).2.2.2.2.1) ((tSt T (ix a)).2.2.2.2.2) (hW.2.2.2.2.2.2.2.2.2.2.1 (ix a) hA9) b (W9 T) (fun q hq => hW.whl (hI.sd hA9 hq))) wm_256 wm_257 wm_258 hF hS rfl (hW.2.2.2.2.2.2.2.2.2.2.1 (ix a) hA9) rfl rfl ((⟨⟨Nat.le_of_ble_eq_true rfl, Nat.le_of_ble_eq_true rfl⟩, Nat.le_of_ble_eq_true rfl, Nat.le_of_ble_eq_true rfl⟩)) rfl hl.1 rfl (Nat.le_of_ble_eq_true rfl) dX8_perform_125 (fun v u5 H locs hp hF hS hz1 hk1 hd1 => ?_)
    rcases hp with ⟨k1, rfl, hw1⟩ | ⟨q9, k1, rfl, hw1⟩
    · rw [hw1] at hF
      refine W.eq (g2 := F0 m 128 ls [.long (fl 1)]) rfl ?_
      refine fw_lret X hF hS ?_ (Nat.le_of_ble_eq_true rfl) (Nat.le_of_ble_eq_true rfl) dX8_perform_128
      have e9 : spDo sz 3 a b d T = ((1, 0), T) := by simp [spDo, spTrue, k1]
      exact ⟨sz, hfr, by rw [e9]; first | done | rfl, by rw [e9]; exact hW⟩
    · rw [hw1] at hF
      refine W.eq (g2 := F0 m 128 ls [.long ((whT ((W9 T) q9)).toInt64)]) rfl ?_
      refine fw_lret X hF hS ?_ (Nat.le_of_ble_eq_true rfl) (Nat.le_of_ble_eq_true rfl) dX8_perform_128
      have e9 : spDo sz 3 a b d T = ((0, whT (W9 T q9)), setWh T q9 ((W9 T q9).1, (W9 T q9).2.1, (W9 T q9).2.2 + 1)) := by simp [spDo, spTrue, k1]
      exact ⟨sz, hfr, by rw [e9]; first | done | rfl, by rw [e9]; exact hW.wh (Or.inl (hW.whl (hI.sd hA9 k1))) _⟩
  · refine lv_tableIn (off := 128) (tgt := 129) hx hb dX8_perform_1 (by rw [sw1]; decide) (by rw [sw1]; decide) (by rw [sw1]; rfl) (by decide) ?_
    subst sw1
    refine lv_aload_n hx hb dX8_perform_129 rfl (lv_at hl 0 rfl) ?_
    refine fw_get X gC_ok hF (hW.2.1) rfl 0 (by decide) wm_176 rfl dX8_perform_130 ?_
    refine lv_iload_n hx hb dX8_perform_133 rfl (lv_at hl 2 rfl) ?_
    refine fw_aldq X hF (hW.2.2.1) 2 rfl (wi_in ha (N := 4) (by decide)) (v := some (ad (10 + (ix a)))) rfl dX8_perform_134 ?_
    refine W.eq (g2 := F0 m 135 ls [.ref (ad (10 + (ix a)))]) rfl ?_
    refine lv_iload_n hx hb dX8_perform_135 rfl (lv_at hl 3 rfl) ?_
    refine fw_callV (As := [.int b]) (rest := []) X bs_all nw_all mf_X5_countSpokes (c_X5_countSpokes l D cs _ _ (ad (10 + (ix a))) ((tSt T (ix a)).1) ((tSt T (ix a)).2.1) ((tSt T (ix a)).2.2.1) ((tSt T (ix a)).2.2.2.1) ((tSt T (ix a)).2.2.2.2.1) ((tSt T (ix a)).2.2.2.2.2) (hW.2.2.2.2.2.2.2.2.2.2.1 (ix a) hA9) b (W9 T) (fun q hq => hW.whl (hI.sd hA9 hq))) wm_268 wm_269 wm_270 hF hS rfl (hW.2.2.2.2.2.2.2.2.2.2.1 (ix a) hA9) rfl rfl ((⟨⟨Nat.le_of_ble_eq_true rfl, Nat.le_of_ble_eq_true rfl⟩, Nat.le_of_ble_eq_true rfl, Nat.le_of_ble_eq_true rfl⟩)) rfl hl.1 rfl (Nat.le_of_ble_eq_true rfl) dX8_perform_136 (fun v u6 H locs hp hF hS hz1 hk1 hd1 => ?_)
    rcases hp with ⟨k1, rfl, hw1⟩ | ⟨q9, k1, rfl, hw1⟩
    · rw [hw1] at hF
      refine W.eq (g2 := F0 m 139 ls [.long (fl 1)]) rfl ?_
      refine fw_lret X hF hS ?_ (Nat.le_of_ble_eq_true rfl) (Nat.le_of_ble_eq_true rfl) dX8_perform_139
      have e9 : spDo sz 4 a b d T = ((1, 0), T) := by simp [spDo, spCount, k1]
      exact ⟨sz, hfr, by rw [e9]; first | done | rfl, by rw [e9]; exact hW⟩
    · rw [hw1] at hF
      refine W.eq (g2 := F0 m 139 ls [.long (((W9 T) q9).1.toInt64)]) rfl ?_
      refine fw_lret X hF hS ?_ (Nat.le_of_ble_eq_true rfl) (Nat.le_of_ble_eq_true rfl) dX8_perform_139
      have e9 : spDo sz 4 a b d T = ((0, (W9 T q9).1), T) := by simp [spDo, spCount, k1]
      exact ⟨sz, hfr, by rw [e9]; first | done | rfl, by rw [e9]; exact hW⟩
  · refine lv_tableIn (off := 139) (tgt := 140) hx hb dX8_perform_1 (by rw [sw1]; decide) (by rw [sw1]; decide) (by rw [sw1]; rfl) (by decide) ?_
    subst sw1
    refine lv_aload_n hx hb dX8_perform_140 rfl (lv_at hl 0 rfl) ?_
    refine fw_get X gC_ok hF (hW.2.1) rfl 0 (by decide) wm_176 rfl dX8_perform_141 ?_
    refine lv_iload_n hx hb dX8_perform_144 rfl (lv_at hl 2 rfl) ?_
    refine fw_aldq X hF (hW.2.2.1) 2 rfl (wi_in ha (N := 4) (by decide)) (v := some (ad (10 + (ix a)))) rfl dX8_perform_145 ?_
    refine W.eq (g2 := F0 m 146 ls [.ref (ad (10 + (ix a)))]) rfl ?_
    refine lv_iload_n hx hb dX8_perform_146 rfl (lv_at hl 3 rfl) ?_
    refine lv_iload hx hb dX8_perform_147 (lv_at hl 4 rfl) ?_
    refine fw_callV (As := [.int b, .int d]) (rest := []) X bs_all nw_all mf_X5_light (c_X5_light l D cs _ _ (ad (10 + (ix a))) ((tSt T (ix a)).1) ((tSt T (ix a)).2.1) ((tSt T (ix a)).2.2.1) ((tSt T (ix a)).2.2.2.1) ((tSt T (ix a)).2.2.2.2.1) ((tSt T (ix a)).2.2.2.2.2) (hW.2.2.2.2.2.2.2.2.2.2.1 (ix a) hA9) b d) wm_272 wm_273 wm_274 hF hS rfl (hW.2.2.2.2.2.2.2.2.2.2.1 (ix a) hA9) rfl rfl ((⟨⟨Nat.le_of_ble_eq_true rfl, Nat.le_of_ble_eq_true rfl⟩, Nat.le_of_ble_eq_true rfl, Nat.le_of_ble_eq_true rfl⟩)) rfl hl.1 rfl (Nat.le_of_ble_eq_true rfl) dX8_perform_149 (fun v u7 H locs hp hF hS hz1 hk1 hd1 => ?_)
    obtain ⟨rfl, hw1⟩ := hp
    rw [hw1] at hF
    refine W.eq (g2 := F0 m 152 ls [.long (oc (spLight ((tSt T (ix a)).1, (tSt T (ix a)).2.1, (tSt T (ix a)).2.2.1, (tSt T (ix a)).2.2.2.1, (tSt T (ix a)).2.2.2.2.1, (tSt T (ix a)).2.2.2.2.2) b d).1)]) rfl ?_
    refine fw_lret X hF hS ?_ (Nat.le_of_ble_eq_true rfl) (Nat.le_of_ble_eq_true rfl) dX8_perform_152
    have e9 : spDo sz 5 a b d T = ((spLight (tSt T (ix a)) b d).1, setSt T (ix a) (spLight (tSt T (ix a)) b d).2) := by simp [spDo]
    exact ⟨sz, hfr, by rw [e9]; first | done | rfl, by rw [e9]; exact hW.st hA9 _⟩
  · refine lv_tableIn (off := 152) (tgt := 153) hx hb dX8_perform_1 (by rw [sw1]; decide) (by rw [sw1]; decide) (by rw [sw1]; rfl) (by decide) ?_
    subst sw1
    refine lv_aload_n hx hb dX8_perform_153 rfl (lv_at hl 0 rfl) ?_
    refine fw_get X gC_ok hF (hW.2.1) rfl 0 (by decide) wm_176 rfl dX8_perform_154 ?_
    refine lv_iload_n hx hb dX8_perform_157 rfl (lv_at hl 2 rfl) ?_
    refine fw_aldq X hF (hW.2.2.1) 2 rfl (wi_in ha (N := 4) (by decide)) (v := some (ad (10 + (ix a)))) rfl dX8_perform_158 ?_
    refine W.eq (g2 := F0 m 159 ls [.ref (ad (10 + (ix a)))]) rfl ?_
    refine lv_iload_n hx hb dX8_perform_159 rfl (lv_at hl 3 rfl) ?_
    refine fw_callV (As := [.int b]) (rest := []) X bs_all nw_all mf_X5_shine (c_X5_shine l D cs _ _ (ad (10 + (ix a))) ((tSt T (ix a)).1) ((tSt T (ix a)).2.1) ((tSt T (ix a)).2.2.1) ((tSt T (ix a)).2.2.2.1) ((tSt T (ix a)).2.2.2.2.1) ((tSt T (ix a)).2.2.2.2.2) (hW.2.2.2.2.2.2.2.2.2.2.1 (ix a) hA9) b) wm_276 wm_277 wm_278 hF hS rfl (hW.2.2.2.2.2.2.2.2.2.2.1 (ix a) hA9) rfl rfl ((⟨⟨Nat.le_of_ble_eq_true rfl, Nat.le_of_ble_eq_true rfl⟩, Nat.le_of_ble_eq_true rfl, Nat.le_of_ble_eq_true rfl⟩)) rfl hl.1 rfl (Nat.le_of_ble_eq_true rfl) dX8_perform_160 (fun v u8 H locs hp hF hS hz1 hk1 hd1 => ?_)
    obtain ⟨rfl, hw1⟩ := hp
    rw [hw1] at hF
    refine W.eq (g2 := F0 m 163 ls [.long (oc (spShine ((tSt T (ix a)).1, (tSt T (ix a)).2.1, (tSt T (ix a)).2.2.1, (tSt T (ix a)).2.2.2.1, (tSt T (ix a)).2.2.2.2.1, (tSt T (ix a)).2.2.2.2.2) b).1)]) rfl ?_
    refine fw_lret X hF hS ?_ (Nat.le_of_ble_eq_true rfl) (Nat.le_of_ble_eq_true rfl) dX8_perform_163
    have e9 : spDo sz 6 a b d T = ((spShine (tSt T (ix a)) b).1, setSt T (ix a) (spShine (tSt T (ix a)) b).2) := by simp [spDo]
    exact ⟨sz, hfr, by rw [e9]; first | done | rfl, by rw [e9]; exact hW.st hA9 _⟩
  · refine lv_tableIn (off := 163) (tgt := 164) hx hb dX8_perform_1 (by rw [sw1]; decide) (by rw [sw1]; decide) (by rw [sw1]; rfl) (by decide) ?_
    subst sw1
    refine lv_aload_n hx hb dX8_perform_164 rfl (lv_at hl 0 rfl) ?_
    refine fw_get X gC_ok hF (hW.2.1) rfl 1 (by decide) wm_177 rfl dX8_perform_165 ?_
    refine lv_iload_n hx hb dX8_perform_168 rfl (lv_at hl 2 rfl) ?_
    refine fw_aldq X hF (hW.2.2.2.1) 3 rfl (wi_in ha (N := 4) (by decide)) (v := some (ad (14 + (ix a)))) rfl dX8_perform_169 ?_
    refine W.eq (g2 := F0 m 170 ls [.ref (ad (14 + (ix a)))]) rfl ?_
    refine lv_iload_n hx hb dX8_perform_170 rfl (lv_at hl 3 rfl) ?_
    refine fw_callV (As := [.int b]) (rest := []) X bs_all nw_all mf_X0_make (c_X0_make l D cs _ _ (ad (14 + (ix a))) (ad (18 + (ix a))) ((tBa T (ix a)).1) ((tBa T (ix a)).2) (hW.2.2.2.2.2.2.2.2.2.2.2.1 (ix a) hA9) (hW.2.2.2.2.2.2.2.2.2.2.2.2.1 (ix a) hA9) b) wm_280 wm_281 wm_282 hF hS rfl (hW.2.2.2.2.2.2.2.2.2.2.2.1 (ix a) hA9) rfl rfl ((⟨⟨Nat.le_of_ble_eq_true rfl, Nat.le_of_ble_eq_true rfl⟩, Nat.le_of_ble_eq_true rfl, Nat.le_of_ble_eq_true rfl⟩)) rfl hl.1 rfl (Nat.le_of_ble_eq_true rfl) dX8_perform_171 (fun v u9 H locs hp hF hS hz1 hk1 hd1 => ?_)
    rcases hp with ⟨k1, rfl, hw1⟩ | ⟨k1, rfl, hw1⟩
    · rw [hw1] at hF
      refine W.eq (g2 := F0 m 174 ls [.long (fl 2)]) rfl ?_
      refine fw_lret X hF hS ?_ (Nat.le_of_ble_eq_true rfl) (Nat.le_of_ble_eq_true rfl) dX8_perform_174
      have m1 : b < 0 := k1.elim id (fun z => absurd z (i_nlt.mpr (ok_7 hok)))
      have e9 : spDo sz 7 a b d T = ((2, 0), T) := by simp [spDo, m1]
      exact ⟨sz, hfr, by rw [e9]; first | done | rfl, by rw [e9]; exact hW⟩
    · rw [hw1] at hF
      refine W.eq (g2 := F0 m 174 ls [.long b.toInt64]) rfl ?_
      refine fw_lret X hF hS ?_ (Nat.le_of_ble_eq_true rfl) (Nat.le_of_ble_eq_true rfl) dX8_perform_174
      have m1 : ¬ b < 0 := fun z => k1 (Or.inl z)
      have e9 : spDo sz 7 a b d T = ((0, b), setBa T (ix a) (b, fun _ => 0)) := by simp [spDo, m1]
      exact ⟨sz, hfr, by rw [e9]; first | done | rfl, by rw [e9]; exact by rw [← uBa T (ix a) ((tBa T (ix a)).1, fun _ => 0)]; have := (hW.baA hA9 (fun _ => 0)).baO hA9 b; rw [gBa, va_up_self] at this; exact this⟩
  · refine lv_tableIn (off := 174) (tgt := 175) hx hb dX8_perform_1 (by rw [sw1]; decide) (by rw [sw1]; decide) (by rw [sw1]; rfl) (by decide) ?_
    subst sw1
    refine lv_aload_n hx hb dX8_perform_175 rfl (lv_at hl 0 rfl) ?_
    refine fw_get X gC_ok hF (hW.2.1) rfl 2 (by decide) wm_178 rfl dX8_perform_176 ?_
    refine lv_iload_n hx hb dX8_perform_179 rfl (lv_at hl 2 rfl) ?_
    refine fw_aldq X hF (hW.2.2.2.2.1) 4 rfl (wi_in ha (N := 4) (by decide)) (v := some (ad (22 + (ix a)))) rfl dX8_perform_180 ?_
    refine W.eq (g2 := F0 m 181 ls [.ref (ad (22 + (ix a)))]) rfl ?_
    refine lv_iload_n hx hb dX8_perform_181 rfl (lv_at hl 3 rfl) ?_
    refine lv_iload hx hb dX8_perform_182 (lv_at hl 4 rfl) ?_
    refine lv_iconst (v := 1) hx hb dX8_perform_184 (by decide) ?_
    refine lv_iand hx hb dX8_perform_185 ?_
    refine lv_if_eq (tgt := 193) hx hb dX8_perform_186 (by decide) (fun c186_10 => ?_) (fun c186_10 => ?_)
    · refine lv_iconst (v := 0) hx hb dX8_perform_193 (by decide) ?_
      refine fw_callV (As := [.int b, .int 0]) (rest := []) X bs_all nw_all mf_X3_make (c_X3_make l D cs _ _ (ad (22 + (ix a))) (ad (26 + (ix a))) ((tRa T (ix a)).1) ((tRa T (ix a)).2.1) ((tRa T (ix a)).2.2) (hW.2.2.2.2.2.2.2.2.2.2.2.2.2.1 (ix a) hA9) (hW.2.2.2.2.2.2.2.2.2.2.2.2.2.2.1 (ix a) hA9) b false) wm_288 wm_289 wm_290 hF hS rfl (hW.2.2.2.2.2.2.2.2.2.2.2.2.2.1 (ix a) hA9) rfl rfl ((⟨⟨Nat.le_of_ble_eq_true rfl, Nat.le_of_ble_eq_true rfl⟩, Nat.le_of_ble_eq_true rfl, Nat.le_of_ble_eq_true rfl⟩)) rfl hl.1 rfl (Nat.le_of_ble_eq_true rfl) dX8_perform_194 (fun v u11 H locs hp hF hS hz1 hk1 hd1 => ?_)
      rcases hp with ⟨k1, rfl, hw1⟩ | ⟨k1, rfl, hw1⟩
      · rw [hw1] at hF
        refine W.eq (g2 := F0 m 197 ls [.long (fl 2)]) rfl ?_
        refine fw_lret X hF hS ?_ (Nat.le_of_ble_eq_true rfl) (Nat.le_of_ble_eq_true rfl) dX8_perform_197
        have m1 : b < 0 := k1.elim id (fun z => absurd z (i_nlt.mpr (ok_8 hok)))
        have e9 : spDo sz 8 a b d T = ((2, 0), T) := by simp [spDo, c186_10, m1]
        exact ⟨sz, hfr, by rw [e9]; first | done | rfl, by rw [e9]; exact hW⟩
      · rw [hw1] at hF
        refine W.eq (g2 := F0 m 197 ls [.long b.toInt64]) rfl ?_
        refine fw_lret X hF hS ?_ (Nat.le_of_ble_eq_true rfl) (Nat.le_of_ble_eq_true rfl) dX8_perform_197
        have m1 : ¬ b < 0 := fun z => k1 (Or.inl z)
        have e9 : spDo sz 8 a b d T = ((0, b), setRa T (ix a) (b, false, fun _ => none)) := by simp [spDo, c186_10, m1]
        exact ⟨sz, hfr, by rw [e9]; first | done | rfl, by rw [e9]; exact by rw [← uRa T (ix a) ((tRa T (ix a)).1, (tRa T (ix a)).2.1, fun _ => none)]; have := (hW.raA hA9 (fun _ => none)).raO hA9 b false; rw [gRa, va_up_self] at this; exact this⟩
    · refine lv_iconst (v := 1) hx hb dX8_perform_189 (by decide) ?_
      refine lv_goto (tgt := 194) hx hb dX8_perform_190 (by decide) ?_
      refine fw_callV (As := [.int b, .int 1]) (rest := []) X bs_all nw_all mf_X3_make (c_X3_make l D cs _ _ (ad (22 + (ix a))) (ad (26 + (ix a))) ((tRa T (ix a)).1) ((tRa T (ix a)).2.1) ((tRa T (ix a)).2.2) (hW.2.2.2.2.2.2.2.2.2.2.2.2.2.1 (ix a) hA9) (hW.2.2.2.2.2.2.2.2.2.2.2.2.2.2.1 (ix a) hA9) b true) wm_288 wm_289 wm_290 hF hS rfl (hW.2.2.2.2.2.2.2.2.2.2.2.2.2.1 (ix a) hA9) rfl rfl ((⟨⟨Nat.le_of_ble_eq_true rfl, Nat.le_of_ble_eq_true rfl⟩, Nat.le_of_ble_eq_true rfl, Nat.le_of_ble_eq_true rfl⟩)) rfl hl.1 rfl (Nat.le_of_ble_eq_true rfl) dX8_perform_194 (fun v u12 H locs hp hF hS hz1 hk1 hd1 => ?_)
      rcases hp with ⟨k1, rfl, hw1⟩ | ⟨k1, rfl, hw1⟩
      · rw [hw1] at hF
        refine W.eq (g2 := F0 m 197 ls [.long (fl 2)]) rfl ?_
        refine fw_lret X hF hS ?_ (Nat.le_of_ble_eq_true rfl) (Nat.le_of_ble_eq_true rfl) dX8_perform_197
        have m1 : b < 0 := k1.elim id (fun z => absurd z (i_nlt.mpr (ok_8 hok)))
        have e9 : spDo sz 8 a b d T = ((2, 0), T) := by simp [spDo, c186_10, m1]
        exact ⟨sz, hfr, by rw [e9]; first | done | rfl, by rw [e9]; exact hW⟩
      · rw [hw1] at hF
        refine W.eq (g2 := F0 m 197 ls [.long b.toInt64]) rfl ?_
        refine fw_lret X hF hS ?_ (Nat.le_of_ble_eq_true rfl) (Nat.le_of_ble_eq_true rfl) dX8_perform_197
        have m1 : ¬ b < 0 := fun z => k1 (Or.inl z)
        have e9 : spDo sz 8 a b d T = ((0, b), setRa T (ix a) (b, true, fun _ => none)) := by simp [spDo, c186_10, m1]
        exact ⟨sz, hfr, by rw [e9]; first | done | rfl, by rw [e9]; exact by rw [← uRa T (ix a) ((tRa T (ix a)).1, (tRa T (ix a)).2.1, fun _ => none)]; have := (hW.raA hA9 (fun _ => none)).raO hA9 b true; rw [gRa, va_up_self] at this; exact this⟩
  · refine lv_tableIn (off := 197) (tgt := 198) hx hb dX8_perform_1 (by rw [sw1]; decide) (by rw [sw1]; decide) (by rw [sw1]; rfl) (by decide) ?_
    subst sw1
    refine lv_aload_n hx hb dX8_perform_198 rfl (lv_at hl 0 rfl) ?_
    refine fw_get X gC_ok hF (hW.2.1) rfl 3 (by decide) wm_179 rfl dX8_perform_199 ?_
    refine lv_iload_n hx hb dX8_perform_202 rfl (lv_at hl 2 rfl) ?_
    refine fw_aldq X hF (hW.2.2.2.2.2.1) 5 rfl (wi_in ha (N := 4) (by decide)) (v := some (ad (30 + (ix a)))) rfl dX8_perform_203 ?_
    refine W.eq (g2 := F0 m 204 ls [.ref (ad (30 + (ix a)))]) rfl ?_
    refine lv_iload_n hx hb dX8_perform_204 rfl (lv_at hl 3 rfl) ?_
    refine lv_iload hx hb dX8_perform_205 (lv_at hl 4 rfl) ?_
    refine fw_callV (As := [.int b, .int d]) (rest := []) X bs_all nw_all mf_X1_make (c_X1_make l D cs _ _ (ad (30 + (ix a))) (ad (34 + (ix a))) ((tGr T (ix a)).1) ((tGr T (ix a)).2.1) ((tGr T (ix a)).2.2) (hW.2.2.2.2.2.2.2.2.2.2.2.2.2.2.2.1 (ix a) hA9) (hW.2.2.2.2.2.2.2.2.2.2.2.2.2.2.2.2.1 (ix a) hA9) b d) wm_293 wm_294 wm_295 hF hS rfl (hW.2.2.2.2.2.2.2.2.2.2.2.2.2.2.2.1 (ix a) hA9) rfl rfl ((⟨⟨Nat.le_of_ble_eq_true rfl, Nat.le_of_ble_eq_true rfl⟩, Nat.le_of_ble_eq_true rfl, Nat.le_of_ble_eq_true rfl⟩)) rfl hl.1 rfl (Nat.le_of_ble_eq_true rfl) dX8_perform_207 (fun v u13 H locs hp hF hS hz1 hk1 hd1 => ?_)
    rcases hp with ⟨k1, rfl, hw1⟩ | ⟨k1, rfl, hw1⟩
    · rw [hw1] at hF
      refine W.eq (g2 := F0 m 210 ls [.long (fl 2)]) rfl ?_
      refine fw_lret X hF hS ?_ (Nat.le_of_ble_eq_true rfl) (Nat.le_of_ble_eq_true rfl) dX8_perform_210
      have m1 : b < 0 ∨ d < 0 := k1.elim Or.inl (fun z => z.elim Or.inr (fun z => z.elim (fun z => absurd z (i_nlt.mpr (ok_9 hok).1)) (fun z => absurd z (i_nlt.mpr (ok_9 hok).2))))
      have e9 : spDo sz 9 a b d T = ((2, 0), T) := by simp [spDo, m1]
      exact ⟨sz, hfr, by rw [e9]; first | done | rfl, by rw [e9]; exact hW⟩
    · rw [hw1] at hF
      refine W.eq (g2 := F0 m 210 ls [.long b.toInt64]) rfl ?_
      refine fw_lret X hF hS ?_ (Nat.le_of_ble_eq_true rfl) (Nat.le_of_ble_eq_true rfl) dX8_perform_210
      have m1 : ¬ (b < 0 ∨ d < 0) := fun z => k1 (z.elim Or.inl (fun z => Or.inr (Or.inl z)))
      have e9 : spDo sz 9 a b d T = ((0, b), setGr T (ix a) (b, d, fun _ => 0)) := by simp [spDo, m1]
      exact ⟨sz, hfr, by rw [e9]; first | done | rfl, by rw [e9]; exact by rw [← uGr T (ix a) ((tGr T (ix a)).1, (tGr T (ix a)).2.1, fun _ => 0)]; have := (hW.grA hA9 (fun _ => 0)).grO hA9 b d; rw [gGr, va_up_self] at this; exact this⟩
  · refine lv_tableIn (off := 210) (tgt := 211) hx hb dX8_perform_1 (by rw [sw1]; decide) (by rw [sw1]; decide) (by rw [sw1]; rfl) (by decide) ?_
    subst sw1
    refine lv_aload_n hx hb dX8_perform_211 rfl (lv_at hl 0 rfl) ?_
    refine lv_iload_n hx hb dX8_perform_212 rfl (lv_at hl 2 rfl) ?_
    refine lv_iload_n hx hb dX8_perform_213 rfl (lv_at hl 3 rfl) ?_
    refine lv_iload hx hb dX8_perform_214 (lv_at hl 4 rfl) ?_
    refine fw_callV (As := [.int a, .int b, .int d]) (rest := []) X bs_all nw_all mf_X8_measure (c_X8_measure l D cs _ _ ad T jf hW a b d ha) wm_299 wm_301 wm_2 hF hS rfl (hW.2.1) rfl rfl ((⟨⟨Nat.le_of_ble_eq_true rfl, Nat.le_of_ble_eq_true rfl⟩, Nat.le_of_ble_eq_true rfl, Nat.le_of_ble_eq_true rfl⟩)) rfl hl.1 rfl (Nat.le_of_ble_eq_true rfl) dX8_perform_216 (fun v u14 H locs hp hF hS hz1 hk1 hd1 => ?_)
    obtain ⟨rfl, hw1⟩ := hp
    rw [hw1] at hF
    refine W.eq (g2 := F0 m 219 ls [.long (oc (spLong a b d T))]) rfl ?_
    refine fw_lret X hF hS ?_ (Nat.le_of_ble_eq_true rfl) (Nat.le_of_ble_eq_true rfl) dX8_perform_219
    have e9 : spDo sz 10 a b d T = (spLong a b d T, T) := by simp [spDo]
    exact ⟨sz, hfr, by rw [e9]; first | done | rfl, by rw [e9]; exact hW⟩
  · refine lv_tableIn (off := 219) (tgt := 220) hx hb dX8_perform_1 (by rw [sw1]; decide) (by rw [sw1]; decide) (by rw [sw1]; rfl) (by decide) ?_
    subst sw1
    refine lv_aload_n hx hb dX8_perform_220 rfl (lv_at hl 0 rfl) ?_
    refine fw_get X gC_ok hF (hW.2.1) rfl 1 (by decide) wm_177 rfl dX8_perform_221 ?_
    refine lv_iload_n hx hb dX8_perform_224 rfl (lv_at hl 2 rfl) ?_
    refine fw_aldq X hF (hW.2.2.2.1) 3 rfl (wi_in ha (N := 4) (by decide)) (v := some (ad (14 + (ix a)))) rfl dX8_perform_225 ?_
    refine W.eq (g2 := F0 m 226 ls [.ref (ad (14 + (ix a)))]) rfl ?_
    refine lv_iload_n hx hb dX8_perform_226 rfl (lv_at hl 3 rfl) ?_
    refine lv_iload hx hb dX8_perform_227 (lv_at hl 4 rfl) ?_
    refine fw_callV (As := [.int b, .int d]) (rest := []) X bs_all nw_all mf_X0_put (c_X0_put l D cs _ _ (ad (14 + (ix a))) (ad (18 + (ix a))) ((tBa T (ix a)).1) ((tBa T (ix a)).2) (hW.2.2.2.2.2.2.2.2.2.2.2.1 (ix a) hA9) (hW.2.2.2.2.2.2.2.2.2.2.2.2.1 (ix a) hA9) b d (hI.2.1 _ hA9).2) wm_312 wm_313 wm_314 hF hS rfl (hW.2.2.2.2.2.2.2.2.2.2.2.1 (ix a) hA9) rfl rfl ((⟨⟨Nat.le_of_ble_eq_true rfl, Nat.le_of_ble_eq_true rfl⟩, Nat.le_of_ble_eq_true rfl, Nat.le_of_ble_eq_true rfl⟩)) rfl hl.1 rfl (Nat.le_of_ble_eq_true rfl) dX8_perform_229 (fun v u15 H locs hp hF hS hz1 hk1 hd1 => ?_)
    rcases hp with ⟨k1, rfl, hw1⟩ | ⟨k1, k2, rfl, hw1⟩ | ⟨k1, k2, rfl, hw1⟩
    · rw [hw1] at hF
      refine W.eq (g2 := F0 m 232 ls [.long (fl 1)]) rfl ?_
      refine fw_lret X hF hS ?_ (Nat.le_of_ble_eq_true rfl) (Nat.le_of_ble_eq_true rfl) dX8_perform_232
      have e9 : spDo sz 11 a b d T = ((1, 0), T) := by simp [spDo, spPut, k1]
      exact ⟨sz, hfr, by rw [e9]; first | done | rfl, by rw [e9]; exact hW⟩
    · rw [hw1] at hF
      refine W.eq (g2 := F0 m 232 ls [.long (fl 3)]) rfl ?_
      refine fw_lret X hF hS ?_ (Nat.le_of_ble_eq_true rfl) (Nat.le_of_ble_eq_true rfl) dX8_perform_232
      have e9 : spDo sz 11 a b d T = ((3, 0), T) := by simp [spDo, spPut, k1, k2]
      exact ⟨sz, hfr, by rw [e9]; first | done | rfl, by rw [e9]; exact hW⟩
    · rw [hw1] at hF
      refine W.eq (g2 := F0 m 232 ls [.long ((((tBa T (ix a)).2) (ix b)).toInt64)]) rfl ?_
      refine fw_lret X hF hS ?_ (Nat.le_of_ble_eq_true rfl) (Nat.le_of_ble_eq_true rfl) dX8_perform_232
      have e9 : spDo sz 11 a b d T = ((0, (tBa T (ix a)).2 (ix b)), setBa T (ix a) ((tBa T (ix a)).1, upd (tBa T (ix a)).2 (ix b) d)) := by simp [spDo, spPut, k1, k2]
      exact ⟨sz, hfr, by rw [e9]; first | done | rfl, by rw [e9]; exact hW.baA hA9 _⟩
  · refine lv_tableIn (off := 232) (tgt := 233) hx hb dX8_perform_1 (by rw [sw1]; decide) (by rw [sw1]; decide) (by rw [sw1]; rfl) (by decide) ?_
    subst sw1
    refine lv_aload_n hx hb dX8_perform_233 rfl (lv_at hl 0 rfl) ?_
    refine fw_get X gC_ok hF (hW.2.1) rfl 3 (by decide) wm_179 rfl dX8_perform_234 ?_
    refine lv_iload_n hx hb dX8_perform_237 rfl (lv_at hl 2 rfl) ?_
    refine fw_aldq X hF (hW.2.2.2.2.2.1) 5 rfl (wi_in ha (N := 4) (by decide)) (v := some (ad (30 + (ix a)))) rfl dX8_perform_238 ?_
    refine W.eq (g2 := F0 m 239 ls [.ref (ad (30 + (ix a)))]) rfl ?_
    refine lv_iload_n hx hb dX8_perform_239 rfl (lv_at hl 3 rfl) ?_
    refine lv_iload hx hb dX8_perform_240 (lv_at hl 4 rfl) ?_
    refine fw_callV (As := [.int b, .int d]) (rest := []) X bs_all nw_all mf_X1_addOne (c_X1_addOne l D cs _ _ (ad (30 + (ix a))) (ad (34 + (ix a))) ((tGr T (ix a)).1) ((tGr T (ix a)).2.1) ((tGr T (ix a)).2.2) (hW.2.2.2.2.2.2.2.2.2.2.2.2.2.2.2.1 (ix a) hA9) (hW.2.2.2.2.2.2.2.2.2.2.2.2.2.2.2.2.1 (ix a) hA9) b d (hI.2.2.2.1 _ hA9).1.2 (hI.2.2.2.1 _ hA9).2.2) wm_317 wm_318 wm_319 hF hS rfl (hW.2.2.2.2.2.2.2.2.2.2.2.2.2.2.2.1 (ix a) hA9) rfl rfl ((⟨⟨Nat.le_of_ble_eq_true rfl, Nat.le_of_ble_eq_true rfl⟩, Nat.le_of_ble_eq_true rfl, Nat.le_of_ble_eq_true rfl⟩)) rfl hl.1 rfl (Nat.le_of_ble_eq_true rfl) dX8_perform_242 (fun v u16 H locs hp hF hS hz1 hk1 hd1 => ?_)
    rcases hp with ⟨k1, rfl, hw1⟩ | ⟨k1, k2, rfl, hw1⟩ | ⟨k1, k2, rfl, hw1⟩
    · rw [hw1] at hF
      refine W.eq (g2 := F0 m 245 ls [.long (fl 1)]) rfl ?_
      refine fw_lret X hF hS ?_ (Nat.le_of_ble_eq_true rfl) (Nat.le_of_ble_eq_true rfl) dX8_perform_245
      have e9 : spDo sz 12 a b d T = ((1, 0), T) := by simp [spDo, spAdd, k1]
      exact ⟨sz, hfr, by rw [e9]; first | done | rfl, by rw [e9]; exact hW⟩
    · rw [hw1] at hF
      refine W.eq (g2 := F0 m 245 ls [.long (fl 3)]) rfl ?_
      refine fw_lret X hF hS ?_ (Nat.le_of_ble_eq_true rfl) (Nat.le_of_ble_eq_true rfl) dX8_perform_245
      have e9 : spDo sz 12 a b d T = ((3, 0), T) := by simp [spDo, spAdd, k1, k2]
      exact ⟨sz, hfr, by rw [e9]; first | done | rfl, by rw [e9]; exact hW⟩
    · rw [hw1] at hF
      refine W.eq (g2 := F0 m 245 ls [.long ((((tGr T (ix a)).2.2) (12 * ix b + ix d) + 1).toInt64)]) rfl ?_
      refine fw_lret X hF hS ?_ (Nat.le_of_ble_eq_true rfl) (Nat.le_of_ble_eq_true rfl) dX8_perform_245
      have e9 : spDo sz 12 a b d T = ((0, (tGr T (ix a)).2.2 (12 * ix b + ix d) + 1), setGr T (ix a) ((tGr T (ix a)).1, (tGr T (ix a)).2.1, upd (tGr T (ix a)).2.2 (12 * ix b + ix d) ((tGr T (ix a)).2.2 (12 * ix b + ix d) + 1))) := by simp [spDo, spAdd, k1, k2]
      exact ⟨sz, hfr, by rw [e9]; first | done | rfl, by rw [e9]; exact hW.grA hA9 _⟩
  · refine lv_tableIn (off := 245) (tgt := 246) hx hb dX8_perform_1 (by rw [sw1]; decide) (by rw [sw1]; decide) (by rw [sw1]; rfl) (by decide) ?_
    subst sw1
    have hd := ok_13 hok
    refine lv_aload_n hx hb dX8_perform_246 rfl (lv_at hl 0 rfl) ?_
    refine fw_get X gC_ok hF (hW.2.1) rfl 2 (by decide) wm_178 rfl dX8_perform_247 ?_
    refine lv_iload_n hx hb dX8_perform_250 rfl (lv_at hl 2 rfl) ?_
    refine fw_aldq X hF (hW.2.2.2.2.1) 4 rfl (wi_in ha (N := 4) (by decide)) (v := some (ad (22 + (ix a)))) rfl dX8_perform_251 ?_
    refine W.eq (g2 := F0 m 252 ls [.ref (ad (22 + (ix a)))]) rfl ?_
    refine lv_iload_n hx hb dX8_perform_252 rfl (lv_at hl 3 rfl) ?_
    refine lv_aload_n hx hb dX8_perform_253 rfl (lv_at hl 0 rfl) ?_
    refine fw_get X gC_ok hF (hW.2.1) rfl 0 (by decide) wm_176 rfl dX8_perform_254 ?_
    refine lv_iload hx hb dX8_perform_257 (lv_at hl 4 rfl) ?_
    refine fw_aldq X hF (hW.2.2.1) 2 rfl (wi_in hd (N := 4) (by decide)) (v := some (ad (10 + (ix d)))) rfl dX8_perform_259 ?_
    refine W.eq (g2 := F0 m 260 ls [.ref (ad (10 + (ix d))), .int b, .ref (ad (22 + (ix a)))]) rfl ?_
    refine fw_callV (As := [.int b, .ref (ad (10 + (ix d)))]) (rest := []) X bs_all nw_all mf_X3_hang (c_X3_hang l D cs _ _ (ad (22 + (ix a))) (ad (26 + (ix a))) ((tRa T (ix a)).1) ((tRa T (ix a)).2.1) ((tRa T (ix a)).2.2) (hW.2.2.2.2.2.2.2.2.2.2.2.2.2.1 (ix a) hA9) (hW.2.2.2.2.2.2.2.2.2.2.2.2.2.2.1 (ix a) hA9) (ad (10 + (ix d))) ((tSt T (ix d)).1) ((tSt T (ix d)).2.1) ((tSt T (ix d)).2.2.1) ((tSt T (ix d)).2.2.2.1) ((tSt T (ix d)).2.2.2.2.1) ((tSt T (ix d)).2.2.2.2.2) (hW.2.2.2.2.2.2.2.2.2.2.1 (ix d) (wi_lt hd (N := 4) (by decide))) (W9 T) (fun q hq => hW.whl ((hI.1 _ (wi_lt hd (N := 4) (by decide))).1 q hq)) b (hI.2.2.1 _ hA9).1.2) wm_325 wm_326 wm_327 hF hS rfl (hW.2.2.2.2.2.2.2.2.2.2.2.2.2.1 (ix a) hA9) rfl rfl ((⟨⟨Nat.le_of_ble_eq_true rfl, Nat.le_of_ble_eq_true rfl⟩, Nat.le_of_ble_eq_true rfl, Nat.le_of_ble_eq_true rfl⟩)) rfl hl.1 rfl (Nat.le_of_ble_eq_true rfl) dX8_perform_260 (fun v u17 H locs hp hF hS hz1 hk1 hd1 => ?_)
    rcases hp with ⟨k1, rfl, hw1⟩ | ⟨k1, k2, rfl, hw1⟩ | ⟨k1, k2, k3, rfl, hw1⟩ | ⟨k1, k2, k3, rfl, hw1⟩
    · rw [hw1] at hF
      refine W.eq (g2 := F0 m 263 ls [.long (fl 1)]) rfl ?_
      refine fw_lret X hF hS ?_ (Nat.le_of_ble_eq_true rfl) (Nat.le_of_ble_eq_true rfl) dX8_perform_263
      have e9 : spDo sz 13 a b d T = ((1, 0), T) := by simp [spDo, spHang, k1]
      exact ⟨sz, hfr, by rw [e9]; first | done | rfl, by rw [e9]; exact hW⟩
    · rw [hw1] at hF
      refine W.eq (g2 := F0 m 263 ls [.long (fl 3)]) rfl ?_
      refine fw_lret X hF hS ?_ (Nat.le_of_ble_eq_true rfl) (Nat.le_of_ble_eq_true rfl) dX8_perform_263
      have e9 : spDo sz 13 a b d T = ((3, 0), T) := by simp [spDo, spHang, k1, k2]
      exact ⟨sz, hfr, by rw [e9]; first | done | rfl, by rw [e9]; exact hW⟩
    · rw [hw1] at hF
      refine W.eq (g2 := F0 m 263 ls [.long (fl 4)]) rfl ?_
      refine fw_lret X hF hS ?_ (Nat.le_of_ble_eq_true rfl) (Nat.le_of_ble_eq_true rfl) dX8_perform_263
      have m3 := (noS (T := T) (r := tRa T (ix a)) (x := tSt T (ix d))).mpr k3
      have e9 : spDo sz 13 a b d T = ((4, 0), T) := by simp [spDo, spHang, k1, k2, m3]
      exact ⟨sz, hfr, by rw [e9]; first | done | rfl, by rw [e9]; exact hW⟩
    · rw [hw1] at hF
      refine W.eq (g2 := F0 m 263 ls [.long 1]) rfl ?_
      refine fw_lret X hF hS ?_ (Nat.le_of_ble_eq_true rfl) (Nat.le_of_ble_eq_true rfl) dX8_perform_263
      have m3 : ¬ noStore T (tRa T (ix a)) (tSt T (ix d)) = true := fun z => k3 (noS.mp z)
      have e9 : spDo sz 13 a b d T = ((0, 1), setRa T (ix a) ((tRa T (ix a)).1, (tRa T (ix a)).2.1, va_up (tRa T (ix a)).2.2 (ix b) (tSt T (ix d)).2.2.1)) := by simp [spDo, spHang, k1, k2, m3]
      exact ⟨sz, hfr, by rw [e9]; first | done | rfl, by rw [e9]; exact hW.raA hA9 _⟩
  · refine lv_tableIn (off := 263) (tgt := 264) hx hb dX8_perform_1 (by rw [sw1]; decide) (by rw [sw1]; decide) (by rw [sw1]; rfl) (by decide) ?_
    subst sw1
    refine lv_aload_n hx hb dX8_perform_264 rfl (lv_at hl 0 rfl) ?_
    refine fw_get X gC_ok hF (hW.2.1) rfl 2 (by decide) wm_178 rfl dX8_perform_265 ?_
    refine lv_iload_n hx hb dX8_perform_268 rfl (lv_at hl 2 rfl) ?_
    refine fw_aldq X hF (hW.2.2.2.2.1) 4 rfl (wi_in ha (N := 4) (by decide)) (v := some (ad (22 + (ix a)))) rfl dX8_perform_269 ?_
    refine W.eq (g2 := F0 m 270 ls [.ref (ad (22 + (ix a)))]) rfl ?_
    refine lv_iload_n hx hb dX8_perform_270 rfl (lv_at hl 3 rfl) ?_
    refine fw_callV (As := [.int b]) (rest := []) X bs_all nw_all mf_X3_balance (c_X3_balance l D cs _ _ (ad (22 + (ix a))) (ad (26 + (ix a))) ((tRa T (ix a)).1) ((tRa T (ix a)).2.1) ((tRa T (ix a)).2.2) (hW.2.2.2.2.2.2.2.2.2.2.2.2.2.1 (ix a) hA9) (hW.2.2.2.2.2.2.2.2.2.2.2.2.2.2.1 (ix a) hA9) b (W9 T) (fun z q hq => hW.whl ((hI.2.2.1 _ hA9).2 _ q (wi_lt (wi_le z (hI.2.2.1 _ hA9).1.2) (by decide)) hq)) (hI.2.2.1 _ hA9).1.2) wm_330 wm_331 wm_332 hF hS rfl (hW.2.2.2.2.2.2.2.2.2.2.2.2.2.1 (ix a) hA9) rfl rfl ((⟨⟨Nat.le_of_ble_eq_true rfl, Nat.le_of_ble_eq_true rfl⟩, Nat.le_of_ble_eq_true rfl, Nat.le_of_ble_eq_true rfl⟩)) rfl hl.1 rfl (Nat.le_of_ble_eq_true rfl) dX8_perform_271 (fun v u18 H locs hp hF hS hz1 hk1 hd1 => ?_)
    rcases hp with ⟨k1, rfl, hw1⟩ | ⟨k1, k2, rfl, hw1⟩ | ⟨k1, k2, k3, rfl, hw1⟩ | ⟨k1, k2, q9, k3, k4, rfl, hw1⟩ | ⟨k1, k2, q9, k3, k4, rfl, hw1⟩
    · rw [hw1] at hF
      refine W.eq (g2 := F0 m 274 ls [.long (fl 1)]) rfl ?_
      refine fw_lret X hF hS ?_ (Nat.le_of_ble_eq_true rfl) (Nat.le_of_ble_eq_true rfl) dX8_perform_274
      have e9 : spDo sz 14 a b d T = ((1, 0), T) := by simp [spDo, spBal, k1]
      exact ⟨sz, hfr, by rw [e9]; first | done | rfl, by rw [e9]; exact hW⟩
    · rw [hw1] at hF
      refine W.eq (g2 := F0 m 274 ls [.long (fl 3)]) rfl ?_
      refine fw_lret X hF hS ?_ (Nat.le_of_ble_eq_true rfl) (Nat.le_of_ble_eq_true rfl) dX8_perform_274
      have e9 : spDo sz 14 a b d T = ((3, 0), T) := by simp [spDo, spBal, k1, k2]
      exact ⟨sz, hfr, by rw [e9]; first | done | rfl, by rw [e9]; exact hW⟩
    · rw [hw1] at hF
      refine W.eq (g2 := F0 m 274 ls [.long (fl 1)]) rfl ?_
      refine fw_lret X hF hS ?_ (Nat.le_of_ble_eq_true rfl) (Nat.le_of_ble_eq_true rfl) dX8_perform_274
      have e9 : spDo sz 14 a b d T = ((1, 0), T) := by simp [spDo, spBal, k1, k2, k3]
      exact ⟨sz, hfr, by rw [e9]; first | done | rfl, by rw [e9]; exact hW⟩
    · rw [hw1] at hF
      refine W.eq (g2 := F0 m 274 ls [.long (fl 5)]) rfl ?_
      refine fw_lret X hF hS ?_ (Nat.le_of_ble_eq_true rfl) (Nat.le_of_ble_eq_true rfl) dX8_perform_274
      have e9 : spDo sz 14 a b d T = ((5, 0), T) := by simp [spDo, spBal, k1, k2, k3, k4]
      exact ⟨sz, hfr, by rw [e9]; first | done | rfl, by rw [e9]; exact hW⟩
    · rw [hw1] at hF
      refine W.eq (g2 := F0 m 274 ls [.long ((1000 + ((W9 T) q9).1).toInt64)]) rfl ?_
      refine fw_lret X hF hS ?_ (Nat.le_of_ble_eq_true rfl) (Nat.le_of_ble_eq_true rfl) dX8_perform_274
      have e9 : spDo sz 14 a b d T = ((0, 1000 + (W9 T q9).1), setWh T q9 ((W9 T q9).1, (W9 T q9).2.1, 0)) := by simp [spDo, spBal, k1, k2, k3, k4]
      exact ⟨sz, hfr, by rw [e9]; first | done | rfl, by rw [e9]; exact hW.wh (Or.inl (hW.whl ((hI.2.2.1 _ hA9).2 _ _ (wi_lt (wi_le k2 (hI.2.2.1 _ hA9).1.2) (by decide)) k3))) _⟩
  · refine lv_tableIn (off := 274) (tgt := 275) hx hb dX8_perform_1 (by rw [sw1]; decide) (by rw [sw1]; decide) (by rw [sw1]; rfl) (by decide) ?_
    subst sw1
    refine lv_aload_n hx hb dX8_perform_275 rfl (lv_at hl 0 rfl) ?_
    refine lv_iload_n hx hb dX8_perform_276 rfl (lv_at hl 2 rfl) ?_
    refine lv_iload_n hx hb dX8_perform_277 rfl (lv_at hl 3 rfl) ?_
    refine fw_callV (As := [.int a, .int b]) (rest := []) X bs_all nw_all mf_X8_excuse (c_X8_excuse l D cs _ _ ad T jf hW a b ha) wm_338 wm_340 wm_3 hF hS rfl (hW.2.1) rfl rfl ((⟨⟨Nat.le_of_ble_eq_true rfl, Nat.le_of_ble_eq_true rfl⟩, Nat.le_of_ble_eq_true rfl, Nat.le_of_ble_eq_true rfl⟩)) rfl hl.1 rfl (Nat.le_of_ble_eq_true rfl) dX8_perform_278 (fun v u19 H locs hp hF hS hz1 hk1 hd1 => ?_)
    obtain ⟨rfl, hw1⟩ := hp
    rw [hw1] at hF
    refine W.eq (g2 := F0 m 281 ls [.long b.toInt64]) rfl ?_
    refine fw_lret X hF hS ?_ (Nat.le_of_ble_eq_true rfl) (Nat.le_of_ble_eq_true rfl) dX8_perform_281
    have e9 : spDo sz 15 a b d T = ((0, b), setEx T (upd (tEx T) (ix a) (excI b))) := by simp [spDo]
    exact ⟨sz, hfr, by rw [e9]; first | done | rfl, by rw [e9]; exact hW.ex _⟩
  · refine lv_tableIn (off := 281) (tgt := 282) hx hb dX8_perform_1 (by rw [sw1]; decide) (by rw [sw1]; decide) (by rw [sw1]; rfl) (by decide) ?_
    subst sw1
    refine lv_iload_n hx hb dX8_perform_282 rfl (lv_at hl 3 rfl) ?_
    refine lv_if_ne (tgt := 290) hx hb dX8_perform_283 (by decide) (fun c283_20 => ?_) (fun c283_20 => ?_)
    · refine lv_aload_n hx hb dX8_perform_290 rfl (lv_at hl 0 rfl) ?_
      refine fw_get X gC_ok hF (hW.2.1) rfl 5 (by decide) wm_181 rfl dX8_perform_291 ?_
      refine lv_iload_n hx hb dX8_perform_294 rfl (lv_at hl 2 rfl) ?_
      refine fw_iald X hF (hW.2.2.2.2.2.2.2.1) 0 rfl (wi_in ha (N := 4) (by decide)) (v := (tEx T) (ix a)) rfl dX8_perform_295 ?_
      refine fw_callS (As := [.int ((tEx T) (ix a))]) (rest := []) X bs_all nw_all mf_X8_failure (c_X8_failure l D cs _ _ ((tEx T) (ix a))) wm_306 wm_233 hF hS rfl ((⟨⟨Nat.le_of_ble_eq_true rfl, Nat.le_of_ble_eq_true rfl⟩, Nat.le_of_ble_eq_true rfl, Nat.le_of_ble_eq_true rfl⟩)) rfl hl.1 rfl (Nat.le_of_ble_eq_true rfl) dX8_perform_296 (fun v u21 H locs hp hF hS hz1 hk1 hd1 => ?_)
      obtain ⟨rfl, hw1⟩ := hp
      rw [hw1] at hF
      refine W.eq (g2 := F0 m 299 ls [.long (fl ((tEx T) (ix a)))]) rfl ?_
      refine fw_lret X hF hS ?_ (Nat.le_of_ble_eq_true rfl) (Nat.le_of_ble_eq_true rfl) dX8_perform_299
      have e9 : spDo sz 16 a b d T = ((tEx T (ix a), 0), T) := by simp [spDo, c283_20]
      have m9 : ¬ tEx T (ix a) = 0 := by rcases hI.2.2.2.2.2 _ hA9 with z | z | z <;> rw [z] <;> decide
      refine ⟨sz, hfr, ?_, by rw [e9]; exact hW⟩
      rw [e9]; simp [oc, m9]
    · refine lv_lconst (v := 0) hx hb dX8_perform_286 (by decide) ?_
      refine lv_goto (tgt := 299) hx hb dX8_perform_287 (by decide) ?_
      refine fw_lret X hF hS ?_ (Nat.le_of_ble_eq_true rfl) (Nat.le_of_ble_eq_true rfl) dX8_perform_299
      have e9 : spDo sz 16 a b d T = ((0, 0), T) := by simp [spDo, c283_20]
      exact ⟨sz, hfr, by rw [e9]; first | done | rfl, by rw [e9]; exact hW⟩
  · refine lv_tableOut (tgt := 300) hx hb dX8_perform_1 sw1 (by decide) ?_
    exact (wi_kl (ok_k hok) sw1).elim
