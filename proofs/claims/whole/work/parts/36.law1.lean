set_option maxHeartbeats 4000000 in
set_option maxRecDepth 100000 in
theorem law_c0 {p : Program} {l : Launch} {e : Env} {s : State} {m : MethodId} {below : List Frame} {meth : Method} {c : Code} {D : va_G} {cs : Nat → ClassId} {ad am : Nat → Nat} {A : Nat → Prop} {b L j : Nat} {xs : Nat → Int32} {Q : State → Prop} (X : gX p s m #[Value.ref b] meth c cL_law 4 ret "CycleShopLaw" bs_B nw_B D cls10 (tyl cs) A) (hX : va_X b L xs s s.heap) (hbl : b < s.heap.size) (hbA : ¬ A b) (hj : 7 * j + 7 ≤ L) (hL : L ≤ 3584) {ls : Array Slot} (hl : lv_has ls 4 [(0, .ref b), (1, .ref (ad 0)), (2, .ref (am 28)), (3, .int (nI (7 * j)))]) {T : Sg} {H : Heap} {locs : List Loc} (hLI : LI D cs ad am A s.heap T H locs)
    (kk : ∀ (T : Sg) (H : Heap) (locs : List Loc) (cells slots : Nat), LI D cs ad am A s.heap T H locs → cells ≤ 66 + 32 * (j + 1) → slots ≤ 3314 + 96 * (j + 1) → W p l e room_1 s m #[Value.ref b] below meth c H locs cells slots Q (F0 m 479 ls [])) : W p l e room_1 s m #[Value.ref b] below meth c H locs (66 + 32 * j) (3314 + 96 * j) Q (F0 m 92 ls []) := by
  have hx := X.1
  have hb := X.2.1
  obtain ⟨jf, w1, w2, hW, hI, ⟨M, sl, wy, an, hM, hR⟩, hF1, hF2, hdj, hS⟩ := hLI
  refine lv_aload_n hx hb dL_law_92 rfl (lv_at hl 1 rfl) ?_
  refine lv_aload_n hx hb dL_law_93 rfl (lv_at hl 0 rfl) ?_
  refine lv_iload_n hx hb dL_law_94 rfl (lv_at hl 3 rfl) ?_
  refine lv_iconst (v := 1) hx hb dL_law_95 (by decide) ?_
  refine lv_iadd hx hb dL_law_96 ?_
  refine va_sld hx hb hX hbl hbA hS (i := nI (7 * j) + 1) (law_in (i := 7 * j) (k := 1) (by omega) hL) dL_law_97 ?_
  refine lv_aload_n hx hb dL_law_98 rfl (lv_at hl 0 rfl) ?_
  refine lv_iload_n hx hb dL_law_99 rfl (lv_at hl 3 rfl) ?_
  refine lv_iconst (v := 2) hx hb dL_law_100 (by decide) ?_
  refine lv_iadd hx hb dL_law_101 ?_
  refine va_sld hx hb hX hbl hbA hS (i := nI (7 * j) + 2) (law_in (i := 7 * j) (k := 2) (by omega) hL) dL_law_102 ?_
  refine lv_aload_n hx hb dL_law_103 rfl (lv_at hl 0 rfl) ?_
  refine lv_iload_n hx hb dL_law_104 rfl (lv_at hl 3 rfl) ?_
  refine lv_iconst (v := 3) hx hb dL_law_105 (by decide) ?_
  refine lv_iadd hx hb dL_law_106 ?_
  refine va_sld hx hb hX hbl hbA hS (i := nI (7 * j) + 3) (law_in (i := 7 * j) (k := 3) (by omega) hL) dL_law_107 ?_
  refine lv_aload_n hx hb dL_law_108 rfl (lv_at hl 0 rfl) ?_
  refine lv_iload_n hx hb dL_law_109 rfl (lv_at hl 3 rfl) ?_
  refine lv_iconst (v := 4) hx hb dL_law_110 (by decide) ?_
  refine lv_iadd hx hb dL_law_111 ?_
  refine va_sld hx hb hX hbl hbA hS (i := nI (7 * j) + 4) (law_in (i := 7 * j) (k := 4) (by omega) hL) dL_law_112 ?_
  refine fw_callV (As := [.int (xs (nI (7 * j) + 1).toNatClampNeg), .int (xs (nI (7 * j) + 2).toNatClampNeg), .int (xs (nI (7 * j) + 3).toNatClampNeg), .int (xs (nI (7 * j) + 4).toNatClampNeg)]) (rest := []) X bs_all nw_all mf_X8_act (c_X8_act l D cs _ _ ad T jf hW hI (xs (nI (7 * j) + 1).toNatClampNeg) (xs (nI (7 * j) + 2).toNatClampNeg) (xs (nI (7 * j) + 3).toNatClampNeg) (xs (nI (7 * j) + 4).toNatClampNeg)) wm_201 wm_202 wm_203 hF1 hS rfl hW.2.1 rfl rfl ((⟨⟨Nat.le_of_ble_eq_true rfl, Nat.le_of_ble_eq_true rfl⟩, (by show 66 + 32 * j + 1 ≤ 600000; omega), (by show 3314 + 96 * j + 3 ≤ 7302250; omega)⟩)) rfl hl.1 rfl (Nat.le_of_ble_eq_true rfl) dL_law_113 (fun v u1 H1 locs1 hp hF1 hS1 hz hk hd => ?_)
  obtain ⟨hF2a, hdj1⟩ := fw_ap hF2 hdj hk hd
  rcases hp with ⟨hok, q9, hq9, rfl, hW1⟩ | ⟨hok, rfl, hw1⟩
  · refine W.eq (g2 := F0 m 116 ls [.long (oc (spAt q9 (xs (nI (7 * j) + 1).toNatClampNeg) (xs (nI (7 * j) + 2).toNatClampNeg) (xs (nI (7 * j) + 3).toNatClampNeg) (xs (nI (7 * j) + 4).toNatClampNeg) T).1)]) rfl ?_
    refine lv_aload_n hx hb dL_law_116 rfl (lv_at hl 2 rfl) ?_
    refine lv_aload_n hx hb dL_law_117 rfl (lv_at hl 0 rfl) ?_
    refine lv_iload_n hx hb dL_law_118 rfl (lv_at hl 3 rfl) ?_
    refine lv_iconst (v := 1) hx hb dL_law_119 (by decide) ?_
    refine lv_iadd hx hb dL_law_120 ?_
    refine va_sld hx hb hX hbl hbA hS1 (i := nI (7 * j) + 1) (law_in (i := 7 * j) (k := 1) (by omega) hL) dL_law_121 ?_
    refine lv_aload_n hx hb dL_law_122 rfl (lv_at hl 0 rfl) ?_
    refine lv_iload_n hx hb dL_law_123 rfl (lv_at hl 3 rfl) ?_
    refine lv_iconst (v := 2) hx hb dL_law_124 (by decide) ?_
    refine lv_iadd hx hb dL_law_125 ?_
    refine va_sld hx hb hX hbl hbA hS1 (i := nI (7 * j) + 2) (law_in (i := 7 * j) (k := 2) (by omega) hL) dL_law_126 ?_
    refine lv_aload_n hx hb dL_law_127 rfl (lv_at hl 0 rfl) ?_
    refine lv_iload_n hx hb dL_law_128 rfl (lv_at hl 3 rfl) ?_
    refine lv_iconst (v := 3) hx hb dL_law_129 (by decide) ?_
    refine lv_iadd hx hb dL_law_130 ?_
    refine va_sld hx hb hX hbl hbA hS1 (i := nI (7 * j) + 3) (law_in (i := 7 * j) (k := 3) (by omega) hL) dL_law_131 ?_
    refine lv_aload_n hx hb dL_law_132 rfl (lv_at hl 0 rfl) ?_
    refine lv_iload_n hx hb dL_law_133 rfl (lv_at hl 3 rfl) ?_
    refine lv_iconst (v := 4) hx hb dL_law_134 (by decide) ?_
    refine lv_iadd hx hb dL_law_135 ?_
    refine va_sld hx hb hX hbl hbA hS1 (i := nI (7 * j) + 4) (law_in (i := 7 * j) (k := 4) (by omega) hL) dL_law_136 ?_
    refine fw_callV (As := [.int (xs (nI (7 * j) + 1).toNatClampNeg), .int (xs (nI (7 * j) + 2).toNatClampNeg), .int (xs (nI (7 * j) + 3).toNatClampNeg), .int (xs (nI (7 * j) + 4).toNatClampNeg)]) (rest := [.long (oc (spAt q9 (xs (nI (7 * j) + 1).toNatClampNeg) (xs (nI (7 * j) + 2).toNatClampNeg) (xs (nI (7 * j) + 3).toNatClampNeg) (xs (nI (7 * j) + 4).toNatClampNeg) T).1)]) X bs_all nw_all mf_X9_act (c_X9_act l D cs _ _ am M (tRe T) wy an hM sl T hR hI q9 (hW.fr hq9) (xs (nI (7 * j) + 1).toNatClampNeg) (xs (nI (7 * j) + 2).toNatClampNeg) (xs (nI (7 * j) + 3).toNatClampNeg) (xs (nI (7 * j) + 4).toNatClampNeg)) wm_565 wm_566 wm_567 hF2a hS1 rfl hM.2.1 rfl rfl ((⟨⟨Nat.le_of_ble_eq_true rfl, Nat.le_of_ble_eq_true rfl⟩, (by show 66 + 32 * j + 1 + 0 ≤ 600000; omega), (by show 3314 + 96 * j + 3 + 0 ≤ 7302250; omega)⟩)) rfl hl.1 rfl (Nat.le_of_ble_eq_true rfl) dL_law_137 (fun v u2 H2 locs2 hp hF2 hS2 hz hk hd => ?_)
    obtain ⟨hF1a, hdj2⟩ := fw_ap hF1 hdj1.sy hk hd
    rcases hp with ⟨-, rfl, M', sl', wy', an', hM', hR'⟩ | ⟨z, -, -⟩
    · refine W.eq (g2 := F0 m 140 ls [.long (oc (spAt q9 (xs (nI (7 * j) + 1).toNatClampNeg) (xs (nI (7 * j) + 2).toNatClampNeg) (xs (nI (7 * j) + 3).toNatClampNeg) (xs (nI (7 * j) + 4).toNatClampNeg) T).1), .long (oc (spAt q9 (xs (nI (7 * j) + 1).toNatClampNeg) (xs (nI (7 * j) + 2).toNatClampNeg) (xs (nI (7 * j) + 3).toNatClampNeg) (xs (nI (7 * j) + 4).toNatClampNeg) T).1)]) rfl ?_
      refine W.lcmp hx hb dL_law_140 ?_
      refine lv_if_eq (tgt := 479) hx hb dL_law_141 (by decide) (fun _ => ?_) (fun z => absurd ((lg_cmp_eq _ _).mpr rfl) z)
      exact kk (spAt q9 (xs (nI (7 * j) + 1).toNatClampNeg) (xs (nI (7 * j) + 2).toNatClampNeg) (xs (nI (7 * j) + 3).toNatClampNeg) (xs (nI (7 * j) + 4).toNatClampNeg) T).2 H2 locs2 _ _ ⟨jf, u1, u2, hW1, hI.ats hok, ⟨M', sl', wy', an', by rw [at_re]; exact hM', hR'⟩, hF1a, hF2, hdj2.sy, hS2⟩ (by omega) (by omega)
    · exact absurd (hok.symm.trans z) (by decide)
  · rw [hw1] at hF1 hdj1
    refine W.eq (g2 := F0 m 116 ls [.long (-9223372036854775808)]) rfl ?_
    refine lv_aload_n hx hb dL_law_116 rfl (lv_at hl 2 rfl) ?_
    refine lv_aload_n hx hb dL_law_117 rfl (lv_at hl 0 rfl) ?_
    refine lv_iload_n hx hb dL_law_118 rfl (lv_at hl 3 rfl) ?_
    refine lv_iconst (v := 1) hx hb dL_law_119 (by decide) ?_
    refine lv_iadd hx hb dL_law_120 ?_
    refine va_sld hx hb hX hbl hbA hS1 (i := nI (7 * j) + 1) (law_in (i := 7 * j) (k := 1) (by omega) hL) dL_law_121 ?_
    refine lv_aload_n hx hb dL_law_122 rfl (lv_at hl 0 rfl) ?_
    refine lv_iload_n hx hb dL_law_123 rfl (lv_at hl 3 rfl) ?_
    refine lv_iconst (v := 2) hx hb dL_law_124 (by decide) ?_
    refine lv_iadd hx hb dL_law_125 ?_
    refine va_sld hx hb hX hbl hbA hS1 (i := nI (7 * j) + 2) (law_in (i := 7 * j) (k := 2) (by omega) hL) dL_law_126 ?_
    refine lv_aload_n hx hb dL_law_127 rfl (lv_at hl 0 rfl) ?_
    refine lv_iload_n hx hb dL_law_128 rfl (lv_at hl 3 rfl) ?_
    refine lv_iconst (v := 3) hx hb dL_law_129 (by decide) ?_
    refine lv_iadd hx hb dL_law_130 ?_
    refine va_sld hx hb hX hbl hbA hS1 (i := nI (7 * j) + 3) (law_in (i := 7 * j) (k := 3) (by omega) hL) dL_law_131 ?_
    refine lv_aload_n hx hb dL_law_132 rfl (lv_at hl 0 rfl) ?_
    refine lv_iload_n hx hb dL_law_133 rfl (lv_at hl 3 rfl) ?_
    refine lv_iconst (v := 4) hx hb dL_law_134 (by decide) ?_
    refine lv_iadd hx hb dL_law_135 ?_
    refine va_sld hx hb hX hbl hbA hS1 (i := nI (7 * j) + 4) (law_in (i := 7 * j) (k := 4) (by omega) hL) dL_law_136 ?_
    refine fw_callV (As := [.int (xs (nI (7 * j) + 1).toNatClampNeg), .int (xs (nI (7 * j) + 2).toNatClampNeg), .int (xs (nI (7 * j) + 3).toNatClampNeg), .int (xs (nI (7 * j) + 4).toNatClampNeg)]) (rest := [.long (-9223372036854775808)]) X bs_all nw_all mf_X9_act (c_X9_act l D cs _ _ am M (tRe T) wy an hM sl T hR hI H1.size (hW.fr (hF1.fresh (Nat.le_refl _))) (xs (nI (7 * j) + 1).toNatClampNeg) (xs (nI (7 * j) + 2).toNatClampNeg) (xs (nI (7 * j) + 3).toNatClampNeg) (xs (nI (7 * j) + 4).toNatClampNeg)) wm_565 wm_566 wm_567 hF2a hS1 rfl hM.2.1 rfl rfl ((⟨⟨Nat.le_of_ble_eq_true rfl, Nat.le_of_ble_eq_true rfl⟩, (by show 66 + 32 * j + 1 + 0 ≤ 600000; omega), (by show 3314 + 96 * j + 3 + 0 ≤ 7302250; omega)⟩)) rfl hl.1 rfl (Nat.le_of_ble_eq_true rfl) dL_law_137 (fun v u2 H2 locs2 hp hF2 hS2 hz hk hd => ?_)
    obtain ⟨hF1a, hdj2⟩ := fw_ap hF1 hdj1.sy hk hd
    rcases hp with ⟨z, -, -⟩ | ⟨-, rfl, hM'⟩
    · exact absurd (hok.symm.trans z) (by decide)
    · refine W.eq (g2 := F0 m 140 ls [.long (-9223372036854775808), .long (-9223372036854775808)]) rfl ?_
      refine W.lcmp hx hb dL_law_140 ?_
      refine lv_if_eq (tgt := 479) hx hb dL_law_141 (by decide) (fun _ => ?_) (fun z => absurd ((lg_cmp_eq _ _).mpr rfl) z)
      exact kk T H2 locs2 _ _ ⟨jf, w1, u2, hW, hI, ⟨M, sl, wy, an, hM', hR⟩, hF1a, hF2, hdj2.sy, hS2⟩ (by omega) (by omega)
set_option maxHeartbeats 4000000 in
set_option maxRecDepth 100000 in
theorem law_c1 {p : Program} {l : Launch} {e : Env} {s : State} {m : MethodId} {below : List Frame} {meth : Method} {c : Code} {D : va_G} {cs : Nat → ClassId} {ad am : Nat → Nat} {A : Nat → Prop} {b L j : Nat} {xs : Nat → Int32} {Q : State → Prop} (X : gX p s m #[Value.ref b] meth c cL_law 4 ret "CycleShopLaw" bs_B nw_B D cls10 (tyl cs) A) (hX : va_X b L xs s s.heap) (hbl : b < s.heap.size) (hbA : ¬ A b) (hj : 7 * j + 7 ≤ L) (hL : L ≤ 3584) {ls : Array Slot} (hl : lv_has ls 4 [(0, .ref b), (1, .ref (ad 0)), (2, .ref (am 28)), (3, .int (nI (7 * j)))]) {T : Sg} {H : Heap} {locs : List Loc} (hLI : LI D cs ad am A s.heap T H locs)
    (kk : ∀ (T : Sg) (H : Heap) (locs : List Loc) (cells slots : Nat), LI D cs ad am A s.heap T H locs → cells ≤ 66 + 32 * (j + 1) → slots ≤ 3314 + 96 * (j + 1) → W p l e room_1 s m #[Value.ref b] below meth c H locs cells slots Q (F0 m 479 ls [])) : W p l e room_1 s m #[Value.ref b] below meth c H locs (66 + 32 * j) (3314 + 96 * j) Q (F0 m 146 ls []) := by
  have hx := X.1
  have hb := X.2.1
  obtain ⟨jf, w1, w2, hW, hI, ⟨M, sl, wy, an, hM, hR⟩, hF1, hF2, hdj, hS⟩ := hLI
  refine lv_aload_n hx hb dL_law_146 rfl (lv_at hl 1 rfl) ?_
  refine lv_aload_n hx hb dL_law_147 rfl (lv_at hl 0 rfl) ?_
  refine lv_iload_n hx hb dL_law_148 rfl (lv_at hl 3 rfl) ?_
  refine lv_iconst (v := 1) hx hb dL_law_149 (by decide) ?_
  refine lv_iadd hx hb dL_law_150 ?_
  refine va_sld hx hb hX hbl hbA hS (i := nI (7 * j) + 1) (law_in (i := 7 * j) (k := 1) (by omega) hL) dL_law_151 ?_
  refine lv_aload_n hx hb dL_law_152 rfl (lv_at hl 0 rfl) ?_
  refine lv_iload_n hx hb dL_law_153 rfl (lv_at hl 3 rfl) ?_
  refine lv_iconst (v := 2) hx hb dL_law_154 (by decide) ?_
  refine lv_iadd hx hb dL_law_155 ?_
  refine va_sld hx hb hX hbl hbA hS (i := nI (7 * j) + 2) (law_in (i := 7 * j) (k := 2) (by omega) hL) dL_law_156 ?_
  refine lv_aload_n hx hb dL_law_157 rfl (lv_at hl 0 rfl) ?_
  refine lv_iload_n hx hb dL_law_158 rfl (lv_at hl 3 rfl) ?_
  refine lv_iconst (v := 3) hx hb dL_law_159 (by decide) ?_
  refine lv_iadd hx hb dL_law_160 ?_
  refine va_sld hx hb hX hbl hbA hS (i := nI (7 * j) + 3) (law_in (i := 7 * j) (k := 3) (by omega) hL) dL_law_161 ?_
  refine lv_aload_n hx hb dL_law_162 rfl (lv_at hl 0 rfl) ?_
  refine lv_iload_n hx hb dL_law_163 rfl (lv_at hl 3 rfl) ?_
  refine lv_iconst (v := 4) hx hb dL_law_164 (by decide) ?_
  refine lv_iadd hx hb dL_law_165 ?_
  refine va_sld hx hb hX hbl hbA hS (i := nI (7 * j) + 4) (law_in (i := 7 * j) (k := 4) (by omega) hL) dL_law_166 ?_
  refine lv_aload_n hx hb dL_law_167 rfl (lv_at hl 0 rfl) ?_
  refine lv_iload_n hx hb dL_law_168 rfl (lv_at hl 3 rfl) ?_
  refine lv_iconst (v := 5) hx hb dL_law_169 (by decide) ?_
  refine lv_iadd hx hb dL_law_170 ?_
  refine va_sld hx hb hX hbl hbA hS (i := nI (7 * j) + 5) (law_in (i := 7 * j) (k := 5) (by omega) hL) dL_law_171 ?_
  refine lv_aload_n hx hb dL_law_172 rfl (lv_at hl 0 rfl) ?_
  refine lv_iload_n hx hb dL_law_173 rfl (lv_at hl 3 rfl) ?_
  refine lv_bipush (v := 6) hx hb dL_law_174 (by decide) ?_
  refine lv_iadd hx hb dL_law_176 ?_
  refine va_sld hx hb hX hbl hbA hS (i := nI (7 * j) + 6) (law_in (i := 7 * j) (k := 6) (by omega) hL) dL_law_177 ?_
  refine fw_callV (As := [.int (xs (nI (7 * j) + 1).toNatClampNeg), .int (xs (nI (7 * j) + 2).toNatClampNeg), .int (xs (nI (7 * j) + 3).toNatClampNeg), .int (xs (nI (7 * j) + 4).toNatClampNeg), .int (xs (nI (7 * j) + 5).toNatClampNeg), .int (xs (nI (7 * j) + 6).toNatClampNeg)]) (rest := []) X bs_all nw_all mf_X8_step (c_X8_step l D cs _ _ ad T jf hW hI (xs (nI (7 * j) + 1).toNatClampNeg) (xs (nI (7 * j) + 2).toNatClampNeg) (xs (nI (7 * j) + 3).toNatClampNeg) (xs (nI (7 * j) + 4).toNatClampNeg) (xs (nI (7 * j) + 5).toNatClampNeg) (xs (nI (7 * j) + 6).toNatClampNeg)) wm_346 wm_347 wm_348 hF1 hS rfl hW.2.1 rfl rfl ((⟨⟨Nat.le_of_ble_eq_true rfl, Nat.le_of_ble_eq_true rfl⟩, (by show 66 + 32 * j + 1 ≤ 600000; omega), (by show 3314 + 96 * j + 5 ≤ 7302250; omega)⟩)) rfl hl.1 rfl (Nat.le_of_ble_eq_true rfl) dL_law_178 (fun v u1 H1 locs1 hp hF1 hS1 hz hk hd => ?_)
  obtain ⟨hF2a, hdj1⟩ := fw_ap hF2 hdj hk hd
  obtain ⟨jf', rfl, hW1⟩ := hp
  refine W.eq (g2 := F0 m 181 ls [.int ((spStep (xs (nI (7 * j) + 1).toNatClampNeg) (xs (nI (7 * j) + 2).toNatClampNeg) (xs (nI (7 * j) + 3).toNatClampNeg) (xs (nI (7 * j) + 4).toNatClampNeg) (xs (nI (7 * j) + 5).toNatClampNeg) (xs (nI (7 * j) + 6).toNatClampNeg) T).1)]) rfl ?_
  refine lv_aload_n hx hb dL_law_181 rfl (lv_at hl 2 rfl) ?_
  refine lv_aload_n hx hb dL_law_182 rfl (lv_at hl 0 rfl) ?_
  refine lv_iload_n hx hb dL_law_183 rfl (lv_at hl 3 rfl) ?_
  refine lv_iconst (v := 1) hx hb dL_law_184 (by decide) ?_
  refine lv_iadd hx hb dL_law_185 ?_
  refine va_sld hx hb hX hbl hbA hS1 (i := nI (7 * j) + 1) (law_in (i := 7 * j) (k := 1) (by omega) hL) dL_law_186 ?_
  refine lv_aload_n hx hb dL_law_187 rfl (lv_at hl 0 rfl) ?_
  refine lv_iload_n hx hb dL_law_188 rfl (lv_at hl 3 rfl) ?_
  refine lv_iconst (v := 2) hx hb dL_law_189 (by decide) ?_
  refine lv_iadd hx hb dL_law_190 ?_
  refine va_sld hx hb hX hbl hbA hS1 (i := nI (7 * j) + 2) (law_in (i := 7 * j) (k := 2) (by omega) hL) dL_law_191 ?_
  refine lv_aload_n hx hb dL_law_192 rfl (lv_at hl 0 rfl) ?_
  refine lv_iload_n hx hb dL_law_193 rfl (lv_at hl 3 rfl) ?_
  refine lv_iconst (v := 3) hx hb dL_law_194 (by decide) ?_
  refine lv_iadd hx hb dL_law_195 ?_
  refine va_sld hx hb hX hbl hbA hS1 (i := nI (7 * j) + 3) (law_in (i := 7 * j) (k := 3) (by omega) hL) dL_law_196 ?_
  refine lv_aload_n hx hb dL_law_197 rfl (lv_at hl 0 rfl) ?_
  refine lv_iload_n hx hb dL_law_198 rfl (lv_at hl 3 rfl) ?_
  refine lv_iconst (v := 4) hx hb dL_law_199 (by decide) ?_
  refine lv_iadd hx hb dL_law_200 ?_
  refine va_sld hx hb hX hbl hbA hS1 (i := nI (7 * j) + 4) (law_in (i := 7 * j) (k := 4) (by omega) hL) dL_law_201 ?_
  refine lv_aload_n hx hb dL_law_202 rfl (lv_at hl 0 rfl) ?_
  refine lv_iload_n hx hb dL_law_203 rfl (lv_at hl 3 rfl) ?_
  refine lv_iconst (v := 5) hx hb dL_law_204 (by decide) ?_
  refine lv_iadd hx hb dL_law_205 ?_
  refine va_sld hx hb hX hbl hbA hS1 (i := nI (7 * j) + 5) (law_in (i := 7 * j) (k := 5) (by omega) hL) dL_law_206 ?_
  refine lv_aload_n hx hb dL_law_207 rfl (lv_at hl 0 rfl) ?_
  refine lv_iload_n hx hb dL_law_208 rfl (lv_at hl 3 rfl) ?_
  refine lv_bipush (v := 6) hx hb dL_law_209 (by decide) ?_
  refine lv_iadd hx hb dL_law_211 ?_
  refine va_sld hx hb hX hbl hbA hS1 (i := nI (7 * j) + 6) (law_in (i := 7 * j) (k := 6) (by omega) hL) dL_law_212 ?_
  refine fw_callV (As := [.int (xs (nI (7 * j) + 1).toNatClampNeg), .int (xs (nI (7 * j) + 2).toNatClampNeg), .int (xs (nI (7 * j) + 3).toNatClampNeg), .int (xs (nI (7 * j) + 4).toNatClampNeg), .int (xs (nI (7 * j) + 5).toNatClampNeg), .int (xs (nI (7 * j) + 6).toNatClampNeg)]) (rest := [.int ((spStep (xs (nI (7 * j) + 1).toNatClampNeg) (xs (nI (7 * j) + 2).toNatClampNeg) (xs (nI (7 * j) + 3).toNatClampNeg) (xs (nI (7 * j) + 4).toNatClampNeg) (xs (nI (7 * j) + 5).toNatClampNeg) (xs (nI (7 * j) + 6).toNatClampNeg) T).1)]) X bs_all nw_all mf_X9_step (c_X9_step l D cs _ _ am M (tRe T) wy an hM sl T hR hI (xs (nI (7 * j) + 1).toNatClampNeg) (xs (nI (7 * j) + 2).toNatClampNeg) (xs (nI (7 * j) + 3).toNatClampNeg) (xs (nI (7 * j) + 4).toNatClampNeg) (xs (nI (7 * j) + 5).toNatClampNeg) (xs (nI (7 * j) + 6).toNatClampNeg)) wm_639 wm_640 wm_641 hF2a hS1 rfl hM.2.1 rfl rfl ((⟨⟨Nat.le_of_ble_eq_true rfl, Nat.le_of_ble_eq_true rfl⟩, (by show 66 + 32 * j + 1 + 0 ≤ 600000; omega), (by show 3314 + 96 * j + 5 + 0 ≤ 7302250; omega)⟩)) rfl hl.1 rfl (Nat.le_of_ble_eq_true rfl) dL_law_213 (fun v u2 H2 locs2 hp hF2 hS2 hz hk hd => ?_)
  obtain ⟨hF1a, hdj2⟩ := fw_ap hF1 hdj1.sy hk hd
  obtain ⟨rfl, M', sl', hM', hR'⟩ := hp
  refine W.eq (g2 := F0 m 216 ls [.int ((spStep (xs (nI (7 * j) + 1).toNatClampNeg) (xs (nI (7 * j) + 2).toNatClampNeg) (xs (nI (7 * j) + 3).toNatClampNeg) (xs (nI (7 * j) + 4).toNatClampNeg) (xs (nI (7 * j) + 5).toNatClampNeg) (xs (nI (7 * j) + 6).toNatClampNeg) T).1), .int ((spStep (xs (nI (7 * j) + 1).toNatClampNeg) (xs (nI (7 * j) + 2).toNatClampNeg) (xs (nI (7 * j) + 3).toNatClampNeg) (xs (nI (7 * j) + 4).toNatClampNeg) (xs (nI (7 * j) + 5).toNatClampNeg) (xs (nI (7 * j) + 6).toNatClampNeg) T).1)]) rfl ?_
  refine lv_icmp_eq (tgt := 479) hx hb dL_law_216 (by decide) (fun _ => ?_) (fun z => absurd rfl z)
  exact kk (spStep (xs (nI (7 * j) + 1).toNatClampNeg) (xs (nI (7 * j) + 2).toNatClampNeg) (xs (nI (7 * j) + 3).toNatClampNeg) (xs (nI (7 * j) + 4).toNatClampNeg) (xs (nI (7 * j) + 5).toNatClampNeg) (xs (nI (7 * j) + 6).toNatClampNeg) T).2 H2 locs2 _ _ ⟨jf', u1, u2, hW1, hI.step _ _ _ _ _ _, ⟨M', sl', wy, an, by rw [st_re]; exact hM', hR'⟩, hF1a, hF2, hdj2.sy, hS2⟩ (by omega) (by omega)
set_option maxHeartbeats 4000000 in
set_option maxRecDepth 100000 in
theorem law_c2 {p : Program} {l : Launch} {e : Env} {s : State} {m : MethodId} {below : List Frame} {meth : Method} {c : Code} {D : va_G} {cs : Nat → ClassId} {ad am : Nat → Nat} {A : Nat → Prop} {b L j : Nat} {xs : Nat → Int32} {Q : State → Prop} (X : gX p s m #[Value.ref b] meth c cL_law 4 ret "CycleShopLaw" bs_B nw_B D cls10 (tyl cs) A) (hX : va_X b L xs s s.heap) (hbl : b < s.heap.size) (hbA : ¬ A b) (hj : 7 * j + 7 ≤ L) (hL : L ≤ 3584) {ls : Array Slot} (hl : lv_has ls 4 [(0, .ref b), (1, .ref (ad 0)), (2, .ref (am 28)), (3, .int (nI (7 * j)))]) {T : Sg} {H : Heap} {locs : List Loc} (hLI : LI D cs ad am A s.heap T H locs)
    (kk : ∀ (T : Sg) (H : Heap) (locs : List Loc) (cells slots : Nat), LI D cs ad am A s.heap T H locs → cells ≤ 66 + 32 * (j + 1) → slots ≤ 3314 + 96 * (j + 1) → W p l e room_1 s m #[Value.ref b] below meth c H locs cells slots Q (F0 m 479 ls [])) : W p l e room_1 s m #[Value.ref b] below meth c H locs (66 + 32 * j) (3314 + 96 * j) Q (F0 m 221 ls []) := by
  have hx := X.1
  have hb := X.2.1
  obtain ⟨jf, w1, w2, hW, hI, ⟨M, sl, wy, an, hM, hR⟩, hF1, hF2, hdj, hS⟩ := hLI
  refine lv_aload_n hx hb dL_law_221 rfl (lv_at hl 1 rfl) ?_
  refine lv_aload_n hx hb dL_law_222 rfl (lv_at hl 0 rfl) ?_
  refine lv_iload_n hx hb dL_law_223 rfl (lv_at hl 3 rfl) ?_
  refine lv_iconst (v := 1) hx hb dL_law_224 (by decide) ?_
  refine lv_iadd hx hb dL_law_225 ?_
  refine va_sld hx hb hX hbl hbA hS (i := nI (7 * j) + 1) (law_in (i := 7 * j) (k := 1) (by omega) hL) dL_law_226 ?_
  refine fw_callV (As := [.int (xs (nI (7 * j) + 1).toNatClampNeg)]) (rest := []) X bs_all nw_all mf_X8_clear (c_X8_clear l D cs _ _ ad T jf hW (xs (nI (7 * j) + 1).toNatClampNeg)) wm_381 wm_382 wm_383 hF1 hS rfl hW.2.1 rfl rfl ((⟨⟨Nat.le_of_ble_eq_true rfl, Nat.le_of_ble_eq_true rfl⟩, (by show 66 + 32 * j + 0 ≤ 600000; omega), (by show 3314 + 96 * j + 0 ≤ 7302250; omega)⟩)) rfl hl.1 rfl (Nat.le_of_ble_eq_true rfl) dL_law_227 (fun v u1 H1 locs1 hp hF1 hS1 hz hk hd => ?_)
  obtain ⟨hF2a, hdj1⟩ := fw_ap hF2 hdj hk hd
  rcases hp with ⟨hok, rfl, hW1⟩ | ⟨hok, rfl, hw1⟩
  · refine W.eq (g2 := F0 m 230 ls [.int ((tJo T (ix (xs (nI (7 * j) + 1).toNatClampNeg))).1)]) rfl ?_
    refine lv_aload_n hx hb dL_law_230 rfl (lv_at hl 2 rfl) ?_
    refine lv_aload_n hx hb dL_law_231 rfl (lv_at hl 0 rfl) ?_
    refine lv_iload_n hx hb dL_law_232 rfl (lv_at hl 3 rfl) ?_
    refine lv_iconst (v := 1) hx hb dL_law_233 (by decide) ?_
    refine lv_iadd hx hb dL_law_234 ?_
    refine va_sld hx hb hX hbl hbA hS1 (i := nI (7 * j) + 1) (law_in (i := 7 * j) (k := 1) (by omega) hL) dL_law_235 ?_
    refine fw_callV (As := [.int (xs (nI (7 * j) + 1).toNatClampNeg)]) (rest := [.int ((tJo T (ix (xs (nI (7 * j) + 1).toNatClampNeg))).1)]) X bs_all nw_all mf_X9_clear (c_X9_clear l D cs _ _ am M (tRe T) wy an hM sl T hR hI (xs (nI (7 * j) + 1).toNatClampNeg)) wm_645 wm_646 wm_647 hF2a hS1 rfl hM.2.1 rfl rfl ((⟨⟨Nat.le_of_ble_eq_true rfl, Nat.le_of_ble_eq_true rfl⟩, (by show 66 + 32 * j + 0 + 0 ≤ 600000; omega), (by show 3314 + 96 * j + 0 + 0 ≤ 7302250; omega)⟩)) rfl hl.1 rfl (Nat.le_of_ble_eq_true rfl) dL_law_236 (fun v u2 H2 locs2 hp hF2 hS2 hz hk hd => ?_)
    obtain ⟨hF1a, hdj2⟩ := fw_ap hF1 hdj1.sy hk hd
    rcases hp with ⟨-, rfl, M', sl', hM', hR'⟩ | ⟨z, -, -⟩
    · refine W.eq (g2 := F0 m 239 ls [.int ((tJo T (ix (xs (nI (7 * j) + 1).toNatClampNeg))).1), .int ((tJo T (ix (xs (nI (7 * j) + 1).toNatClampNeg))).1)]) rfl ?_
      refine lv_icmp_eq (tgt := 479) hx hb dL_law_239 (by decide) (fun _ => ?_) (fun z => absurd rfl z)
      exact kk (setJo T (ix (xs (nI (7 * j) + 1).toNatClampNeg)) (0, (tJo T (ix (xs (nI (7 * j) + 1).toNatClampNeg))).2)) H2 locs2 _ _ ⟨jf, u1, u2, hW1, hI.clr _ _, ⟨M', sl', wy, an, hM', hR'⟩, hF1a, hF2, hdj2.sy, hS2⟩ (by omega) (by omega)
    · exact absurd (hok.symm.trans z) (by decide)
  · rw [hw1] at hF1 hdj1
    refine W.eq (g2 := F0 m 230 ls [.int (-2)]) rfl ?_
    refine lv_aload_n hx hb dL_law_230 rfl (lv_at hl 2 rfl) ?_
    refine lv_aload_n hx hb dL_law_231 rfl (lv_at hl 0 rfl) ?_
    refine lv_iload_n hx hb dL_law_232 rfl (lv_at hl 3 rfl) ?_
    refine lv_iconst (v := 1) hx hb dL_law_233 (by decide) ?_
    refine lv_iadd hx hb dL_law_234 ?_
    refine va_sld hx hb hX hbl hbA hS1 (i := nI (7 * j) + 1) (law_in (i := 7 * j) (k := 1) (by omega) hL) dL_law_235 ?_
    refine fw_callV (As := [.int (xs (nI (7 * j) + 1).toNatClampNeg)]) (rest := [.int (-2)]) X bs_all nw_all mf_X9_clear (c_X9_clear l D cs _ _ am M (tRe T) wy an hM sl T hR hI (xs (nI (7 * j) + 1).toNatClampNeg)) wm_645 wm_646 wm_647 hF2a hS1 rfl hM.2.1 rfl rfl ((⟨⟨Nat.le_of_ble_eq_true rfl, Nat.le_of_ble_eq_true rfl⟩, (by show 66 + 32 * j + 0 + 0 ≤ 600000; omega), (by show 3314 + 96 * j + 0 + 0 ≤ 7302250; omega)⟩)) rfl hl.1 rfl (Nat.le_of_ble_eq_true rfl) dL_law_236 (fun v u2 H2 locs2 hp hF2 hS2 hz hk hd => ?_)
    obtain ⟨hF1a, hdj2⟩ := fw_ap hF1 hdj1.sy hk hd
    rcases hp with ⟨z, -, -⟩ | ⟨-, rfl, hM'⟩
    · exact absurd (hok.symm.trans z) (by decide)
    · refine W.eq (g2 := F0 m 239 ls [.int (-2), .int (-2)]) rfl ?_
      refine lv_icmp_eq (tgt := 479) hx hb dL_law_239 (by decide) (fun _ => ?_) (fun z => absurd rfl z)
      exact kk T H2 locs2 _ _ ⟨jf, w1, u2, hW, hI, ⟨M, sl, wy, an, hM', hR⟩, hF1a, hF2, hdj2.sy, hS2⟩ (by omega) (by omega)
set_option maxHeartbeats 4000000 in
set_option maxRecDepth 100000 in
theorem law_c3 {p : Program} {l : Launch} {e : Env} {s : State} {m : MethodId} {below : List Frame} {meth : Method} {c : Code} {D : va_G} {cs : Nat → ClassId} {ad am : Nat → Nat} {A : Nat → Prop} {b L j : Nat} {xs : Nat → Int32} {Q : State → Prop} (X : gX p s m #[Value.ref b] meth c cL_law 4 ret "CycleShopLaw" bs_B nw_B D cls10 (tyl cs) A) (hX : va_X b L xs s s.heap) (hbl : b < s.heap.size) (hbA : ¬ A b) (hj : 7 * j + 7 ≤ L) (hL : L ≤ 3584) {ls : Array Slot} (hl : lv_has ls 4 [(0, .ref b), (1, .ref (ad 0)), (2, .ref (am 28)), (3, .int (nI (7 * j)))]) {T : Sg} {H : Heap} {locs : List Loc} (hLI : LI D cs ad am A s.heap T H locs)
    (kk : ∀ (T : Sg) (H : Heap) (locs : List Loc) (cells slots : Nat), LI D cs ad am A s.heap T H locs → cells ≤ 66 + 32 * (j + 1) → slots ≤ 3314 + 96 * (j + 1) → W p l e room_1 s m #[Value.ref b] below meth c H locs cells slots Q (F0 m 479 ls [])) : W p l e room_1 s m #[Value.ref b] below meth c H locs (66 + 32 * j) (3314 + 96 * j) Q (F0 m 244 ls []) := by
  have hx := X.1
  have hb := X.2.1
  obtain ⟨jf, w1, w2, hW, hI, ⟨M, sl, wy, an, hM, hR⟩, hF1, hF2, hdj, hS⟩ := hLI
  refine lv_aload_n hx hb dL_law_244 rfl (lv_at hl 1 rfl) ?_
  refine lv_aload_n hx hb dL_law_245 rfl (lv_at hl 0 rfl) ?_
  refine lv_iload_n hx hb dL_law_246 rfl (lv_at hl 3 rfl) ?_
  refine lv_iconst (v := 1) hx hb dL_law_247 (by decide) ?_
  refine lv_iadd hx hb dL_law_248 ?_
  refine va_sld hx hb hX hbl hbA hS (i := nI (7 * j) + 1) (law_in (i := 7 * j) (k := 1) (by omega) hL) dL_law_249 ?_
  refine lv_aload_n hx hb dL_law_250 rfl (lv_at hl 0 rfl) ?_
  refine lv_iload_n hx hb dL_law_251 rfl (lv_at hl 3 rfl) ?_
  refine lv_iconst (v := 2) hx hb dL_law_252 (by decide) ?_
  refine lv_iadd hx hb dL_law_253 ?_
  refine va_sld hx hb hX hbl hbA hS (i := nI (7 * j) + 2) (law_in (i := 7 * j) (k := 2) (by omega) hL) dL_law_254 ?_
  refine fw_callV (As := [.int (xs (nI (7 * j) + 1).toNatClampNeg), .int (xs (nI (7 * j) + 2).toNatClampNeg)]) (rest := []) X bs_all nw_all mf_X8_run (c_X8_run l D cs _ _ ad T jf hW hI (xs (nI (7 * j) + 1).toNatClampNeg) (xs (nI (7 * j) + 2).toNatClampNeg)) wm_389 wm_390 wm_391 hF1 hS rfl hW.2.1 rfl rfl ((⟨⟨Nat.le_of_ble_eq_true rfl, Nat.le_of_ble_eq_true rfl⟩, (by show 66 + 32 * j + 32 ≤ 600000; omega), (by show 3314 + 96 * j + 96 ≤ 7302250; omega)⟩)) rfl hl.1 rfl (Nat.le_of_ble_eq_true rfl) dL_law_255 (fun v u1 H1 locs1 hp hF1 hS1 hz hk hd => ?_)
  obtain ⟨hF2a, hdj1⟩ := fw_ap hF2 hdj hk hd
  rcases hp with ⟨hok, rfl, hw1⟩ | ⟨hok, T', hRun, rfl, hW1⟩
  · rw [hw1] at hF1 hdj1
    refine W.eq (g2 := F0 m 258 ls [.int (-2)]) rfl ?_
    refine lv_aload_n hx hb dL_law_258 rfl (lv_at hl 2 rfl) ?_
    refine lv_aload_n hx hb dL_law_259 rfl (lv_at hl 0 rfl) ?_
    refine lv_iload_n hx hb dL_law_260 rfl (lv_at hl 3 rfl) ?_
    refine lv_iconst (v := 1) hx hb dL_law_261 (by decide) ?_
    refine lv_iadd hx hb dL_law_262 ?_
    refine va_sld hx hb hX hbl hbA hS1 (i := nI (7 * j) + 1) (law_in (i := 7 * j) (k := 1) (by omega) hL) dL_law_263 ?_
    refine lv_aload_n hx hb dL_law_264 rfl (lv_at hl 0 rfl) ?_
    refine lv_iload_n hx hb dL_law_265 rfl (lv_at hl 3 rfl) ?_
    refine lv_iconst (v := 2) hx hb dL_law_266 (by decide) ?_
    refine lv_iadd hx hb dL_law_267 ?_
    refine va_sld hx hb hX hbl hbA hS1 (i := nI (7 * j) + 2) (law_in (i := 7 * j) (k := 2) (by omega) hL) dL_law_268 ?_
    refine fw_callV (As := [.int (xs (nI (7 * j) + 1).toNatClampNeg), .int (xs (nI (7 * j) + 2).toNatClampNeg)]) (rest := [.int (-2)]) X bs_all nw_all mf_X9_run (c_X9_run l D cs _ _ am M (tRe T) wy an hM sl T hR hI (xs (nI (7 * j) + 1).toNatClampNeg) (xs (nI (7 * j) + 2).toNatClampNeg) T (fun z => absurd z hok)) wm_649 wm_650 wm_651 hF2a hS1 rfl hM.2.1 rfl rfl ((⟨⟨Nat.le_of_ble_eq_true rfl, Nat.le_of_ble_eq_true rfl⟩, (by show 66 + 32 * j + 32 + 0 ≤ 600000; omega), (by show 3314 + 96 * j + 96 + 0 ≤ 7302250; omega)⟩)) rfl hl.1 rfl (Nat.le_of_ble_eq_true rfl) dL_law_269 (fun v u2 H2 locs2 hp hF2 hS2 hz hk hd => ?_)
    obtain ⟨hF1a, hdj2⟩ := fw_ap hF1 hdj1.sy hk hd
    rcases hp with ⟨-, rfl, hM'⟩ | ⟨z, -, -⟩
    · refine W.eq (g2 := F0 m 272 ls [.int (-2), .int (-2)]) rfl ?_
      refine lv_icmp_eq (tgt := 479) hx hb dL_law_272 (by decide) (fun _ => ?_) (fun z => absurd rfl z)
      exact kk T H2 locs2 _ _ ⟨jf, w1, u2, hW, hI, ⟨M, sl, wy, an, hM', hR⟩, hF1a, hF2, hdj2.sy, hS2⟩ (by omega) (by omega)
    · exact absurd z hok
  · refine W.eq (g2 := F0 m 258 ls [.int ((tRe T').1)]) rfl ?_
    refine lv_aload_n hx hb dL_law_258 rfl (lv_at hl 2 rfl) ?_
    refine lv_aload_n hx hb dL_law_259 rfl (lv_at hl 0 rfl) ?_
    refine lv_iload_n hx hb dL_law_260 rfl (lv_at hl 3 rfl) ?_
    refine lv_iconst (v := 1) hx hb dL_law_261 (by decide) ?_
    refine lv_iadd hx hb dL_law_262 ?_
    refine va_sld hx hb hX hbl hbA hS1 (i := nI (7 * j) + 1) (law_in (i := 7 * j) (k := 1) (by omega) hL) dL_law_263 ?_
    refine lv_aload_n hx hb dL_law_264 rfl (lv_at hl 0 rfl) ?_
    refine lv_iload_n hx hb dL_law_265 rfl (lv_at hl 3 rfl) ?_
    refine lv_iconst (v := 2) hx hb dL_law_266 (by decide) ?_
    refine lv_iadd hx hb dL_law_267 ?_
    refine va_sld hx hb hX hbl hbA hS1 (i := nI (7 * j) + 2) (law_in (i := 7 * j) (k := 2) (by omega) hL) dL_law_268 ?_
    refine fw_callV (As := [.int (xs (nI (7 * j) + 1).toNatClampNeg), .int (xs (nI (7 * j) + 2).toNatClampNeg)]) (rest := [.int ((tRe T').1)]) X bs_all nw_all mf_X9_run (c_X9_run l D cs _ _ am M (tRe T) wy an hM sl T hR hI (xs (nI (7 * j) + 1).toNatClampNeg) (xs (nI (7 * j) + 2).toNatClampNeg) T' (fun _ => hRun)) wm_649 wm_650 wm_651 hF2a hS1 rfl hM.2.1 rfl rfl ((⟨⟨Nat.le_of_ble_eq_true rfl, Nat.le_of_ble_eq_true rfl⟩, (by show 66 + 32 * j + 32 + 0 ≤ 600000; omega), (by show 3314 + 96 * j + 96 + 0 ≤ 7302250; omega)⟩)) rfl hl.1 rfl (Nat.le_of_ble_eq_true rfl) dL_law_269 (fun v u2 H2 locs2 hp hF2 hS2 hz hk hd => ?_)
    obtain ⟨hF1a, hdj2⟩ := fw_ap hF1 hdj1.sy hk hd
    rcases hp with ⟨z, -, -⟩ | ⟨-, rfl, M', sl', wy', an', hM', hR'⟩
    · exact absurd hok z
    · refine W.eq (g2 := F0 m 272 ls [.int ((tRe T').1), .int ((tRe T').1)]) rfl ?_
      refine lv_icmp_eq (tgt := 479) hx hb dL_law_272 (by decide) (fun _ => ?_) (fun z => absurd rfl z)
      exact kk T' H2 locs2 _ _ ⟨jf, u1, u2, hW1, Inv.run (wi_lt hok.1 (N := 4) (by decide)) _ 0 (T0r T) _ hI (by show 0 + _ ≤ ix (tJo T _).1; omega) hRun, ⟨M', sl', wy', an', hM', hR'⟩, hF1a, hF2, hdj2.sy, hS2⟩ (by omega) (by omega)
set_option maxHeartbeats 4000000 in
set_option maxRecDepth 100000 in
theorem law_c4 {p : Program} {l : Launch} {e : Env} {s : State} {m : MethodId} {below : List Frame} {meth : Method} {c : Code} {D : va_G} {cs : Nat → ClassId} {ad am : Nat → Nat} {A : Nat → Prop} {b L j : Nat} {xs : Nat → Int32} {Q : State → Prop} (X : gX p s m #[Value.ref b] meth c cL_law 4 ret "CycleShopLaw" bs_B nw_B D cls10 (tyl cs) A) (hX : va_X b L xs s s.heap) (hbl : b < s.heap.size) (hbA : ¬ A b) (hj : 7 * j + 7 ≤ L) (hL : L ≤ 3584) {ls : Array Slot} (hl : lv_has ls 4 [(0, .ref b), (1, .ref (ad 0)), (2, .ref (am 28)), (3, .int (nI (7 * j)))]) {T : Sg} {H : Heap} {locs : List Loc} (hLI : LI D cs ad am A s.heap T H locs)
    (kk : ∀ (T : Sg) (H : Heap) (locs : List Loc) (cells slots : Nat), LI D cs ad am A s.heap T H locs → cells ≤ 66 + 32 * (j + 1) → slots ≤ 3314 + 96 * (j + 1) → W p l e room_1 s m #[Value.ref b] below meth c H locs cells slots Q (F0 m 479 ls [])) : W p l e room_1 s m #[Value.ref b] below meth c H locs (66 + 32 * j) (3314 + 96 * j) Q (F0 m 277 ls []) := by
  have hx := X.1
  have hb := X.2.1
  obtain ⟨jf, w1, w2, hW, hI, ⟨M, sl, wy, an, hM, hR⟩, hF1, hF2, hdj, hS⟩ := hLI
  refine lv_aload_n hx hb dL_law_277 rfl (lv_at hl 1 rfl) ?_
  refine lv_aload_n hx hb dL_law_278 rfl (lv_at hl 0 rfl) ?_
  refine lv_iload_n hx hb dL_law_279 rfl (lv_at hl 3 rfl) ?_
  refine lv_iconst (v := 1) hx hb dL_law_280 (by decide) ?_
  refine lv_iadd hx hb dL_law_281 ?_
  refine va_sld hx hb hX hbl hbA hS (i := nI (7 * j) + 1) (law_in (i := 7 * j) (k := 1) (by omega) hL) dL_law_282 ?_
  refine fw_callV (As := [.int (xs (nI (7 * j) + 1).toNatClampNeg)]) (rest := []) X bs_all nw_all mf_X8_told (c_X8_told l D cs _ _ ad T jf hW (xs (nI (7 * j) + 1).toNatClampNeg)) wm_418 wm_419 wm_420 hF1 hS rfl hW.2.1 rfl rfl ((⟨⟨Nat.le_of_ble_eq_true rfl, Nat.le_of_ble_eq_true rfl⟩, (by show 66 + 32 * j + 0 ≤ 600000; omega), (by show 3314 + 96 * j + 0 ≤ 7302250; omega)⟩)) rfl hl.1 rfl (Nat.le_of_ble_eq_true rfl) dL_law_283 (fun v u1 H1 locs1 hp hF1 hS1 hz hk hd => ?_)
  obtain ⟨hF2a, hdj1⟩ := fw_ap hF2 hdj hk hd
  obtain ⟨rfl, hw1⟩ := hp
  rw [hw1] at hF1 hdj1
  refine W.eq (g2 := F0 m 286 ls [.int (spTold (tRe T) (xs (nI (7 * j) + 1).toNatClampNeg))]) rfl ?_
  refine lv_aload_n hx hb dL_law_286 rfl (lv_at hl 2 rfl) ?_
  refine lv_aload_n hx hb dL_law_287 rfl (lv_at hl 0 rfl) ?_
  refine lv_iload_n hx hb dL_law_288 rfl (lv_at hl 3 rfl) ?_
  refine lv_iconst (v := 1) hx hb dL_law_289 (by decide) ?_
  refine lv_iadd hx hb dL_law_290 ?_
  refine va_sld hx hb hX hbl hbA hS1 (i := nI (7 * j) + 1) (law_in (i := 7 * j) (k := 1) (by omega) hL) dL_law_291 ?_
  refine fw_callV (As := [.int (xs (nI (7 * j) + 1).toNatClampNeg)]) (rest := [.int (spTold (tRe T) (xs (nI (7 * j) + 1).toNatClampNeg))]) X bs_all nw_all mf_X9_told (c_X9_told l D cs _ _ am M (tRe T) wy an hM sl T hR rfl hI (xs (nI (7 * j) + 1).toNatClampNeg)) wm_657 wm_658 wm_659 hF2a hS1 rfl hM.2.1 rfl rfl ((⟨⟨Nat.le_of_ble_eq_true rfl, Nat.le_of_ble_eq_true rfl⟩, (by show 66 + 32 * j + 0 + 0 ≤ 600000; omega), (by show 3314 + 96 * j + 0 + 0 ≤ 7302250; omega)⟩)) rfl hl.1 rfl (Nat.le_of_ble_eq_true rfl) dL_law_292 (fun v u2 H2 locs2 hp hF2 hS2 hz hk hd => ?_)
  obtain ⟨hF1a, hdj2⟩ := fw_ap hF1 hdj1.sy hk hd
  obtain ⟨rfl, hM'⟩ := hp
  refine W.eq (g2 := F0 m 295 ls [.int (spTold (tRe T) (xs (nI (7 * j) + 1).toNatClampNeg)), .int (spTold (tRe T) (xs (nI (7 * j) + 1).toNatClampNeg))]) rfl ?_
  refine lv_icmp_eq (tgt := 479) hx hb dL_law_295 (by decide) (fun _ => ?_) (fun z => absurd rfl z)
  exact kk T H2 locs2 _ _ ⟨jf, w1, u2, hW, hI, ⟨M, sl, wy, an, hM', hR⟩, hF1a, hF2, hdj2.sy, hS2⟩ (by omega) (by omega)
set_option maxHeartbeats 4000000 in
set_option maxRecDepth 100000 in
theorem law_c5 {p : Program} {l : Launch} {e : Env} {s : State} {m : MethodId} {below : List Frame} {meth : Method} {c : Code} {D : va_G} {cs : Nat → ClassId} {ad am : Nat → Nat} {A : Nat → Prop} {b L j : Nat} {xs : Nat → Int32} {Q : State → Prop} (X : gX p s m #[Value.ref b] meth c cL_law 4 ret "CycleShopLaw" bs_B nw_B D cls10 (tyl cs) A) (hX : va_X b L xs s s.heap) (hbl : b < s.heap.size) (hbA : ¬ A b) (hj : 7 * j + 7 ≤ L) (hL : L ≤ 3584) {ls : Array Slot} (hl : lv_has ls 4 [(0, .ref b), (1, .ref (ad 0)), (2, .ref (am 28)), (3, .int (nI (7 * j)))]) {T : Sg} {H : Heap} {locs : List Loc} (hLI : LI D cs ad am A s.heap T H locs)
    (kk : ∀ (T : Sg) (H : Heap) (locs : List Loc) (cells slots : Nat), LI D cs ad am A s.heap T H locs → cells ≤ 66 + 32 * (j + 1) → slots ≤ 3314 + 96 * (j + 1) → W p l e room_1 s m #[Value.ref b] below meth c H locs cells slots Q (F0 m 479 ls [])) : W p l e room_1 s m #[Value.ref b] below meth c H locs (66 + 32 * j) (3314 + 96 * j) Q (F0 m 300 ls []) := by
  have hx := X.1
  have hb := X.2.1
  obtain ⟨jf, w1, w2, hW, hI, ⟨M, sl, wy, an, hM, hR⟩, hF1, hF2, hdj, hS⟩ := hLI
  refine lv_aload_n hx hb dL_law_300 rfl (lv_at hl 1 rfl) ?_
  refine fw_callV (As := []) (rest := []) X bs_all nw_all mf_X8_sum (c_X8_sum l D cs _ _ ad T jf hW ) wm_422 wm_423 wm_424 hF1 hS rfl hW.2.1 rfl rfl ((⟨⟨Nat.le_of_ble_eq_true rfl, Nat.le_of_ble_eq_true rfl⟩, (by show 66 + 32 * j + 0 ≤ 600000; omega), (by show 3314 + 96 * j + 0 ≤ 7302250; omega)⟩)) rfl hl.1 rfl (Nat.le_of_ble_eq_true rfl) dL_law_301 (fun v u1 H1 locs1 hp hF1 hS1 hz hk hd => ?_)
  obtain ⟨hF2a, hdj1⟩ := fw_ap hF2 hdj hk hd
  obtain ⟨rfl, hw1⟩ := hp
  rw [hw1] at hF1 hdj1
  refine W.eq (g2 := F0 m 304 ls [.long ((tRe T).2.2.2.2.2)]) rfl ?_
  refine lv_aload_n hx hb dL_law_304 rfl (lv_at hl 2 rfl) ?_
  refine fw_callV (As := []) (rest := [.long ((tRe T).2.2.2.2.2)]) X bs_all nw_all mf_X9_sum (c_X9_sum l D cs _ _ am M (tRe T) wy an hM sl T hR rfl hI ) wm_661 wm_662 wm_663 hF2a hS1 rfl hM.2.1 rfl rfl ((⟨⟨Nat.le_of_ble_eq_true rfl, Nat.le_of_ble_eq_true rfl⟩, (by show 66 + 32 * j + 0 + 0 ≤ 600000; omega), (by show 3314 + 96 * j + 0 + 0 ≤ 7302250; omega)⟩)) rfl hl.1 rfl (Nat.le_of_ble_eq_true rfl) dL_law_305 (fun v u2 H2 locs2 hp hF2 hS2 hz hk hd => ?_)
  obtain ⟨hF1a, hdj2⟩ := fw_ap hF1 hdj1.sy hk hd
  obtain ⟨rfl, hM'⟩ := hp
  refine W.eq (g2 := F0 m 308 ls [.long ((tRe T).2.2.2.2.2), .long ((tRe T).2.2.2.2.2)]) rfl ?_
  refine W.lcmp hx hb dL_law_308 ?_
  refine lv_if_eq (tgt := 479) hx hb dL_law_309 (by decide) (fun _ => ?_) (fun z => absurd ((lg_cmp_eq _ _).mpr rfl) z)
  exact kk T H2 locs2 _ _ ⟨jf, w1, u2, hW, hI, ⟨M, sl, wy, an, hM', hR⟩, hF1a, hF2, hdj2.sy, hS2⟩ (by omega) (by omega)
set_option maxHeartbeats 4000000 in
set_option maxRecDepth 100000 in
theorem law_c6 {p : Program} {l : Launch} {e : Env} {s : State} {m : MethodId} {below : List Frame} {meth : Method} {c : Code} {D : va_G} {cs : Nat → ClassId} {ad am : Nat → Nat} {A : Nat → Prop} {b L j : Nat} {xs : Nat → Int32} {Q : State → Prop} (X : gX p s m #[Value.ref b] meth c cL_law 4 ret "CycleShopLaw" bs_B nw_B D cls10 (tyl cs) A) (hX : va_X b L xs s s.heap) (hbl : b < s.heap.size) (hbA : ¬ A b) (hj : 7 * j + 7 ≤ L) (hL : L ≤ 3584) {ls : Array Slot} (hl : lv_has ls 4 [(0, .ref b), (1, .ref (ad 0)), (2, .ref (am 28)), (3, .int (nI (7 * j)))]) {T : Sg} {H : Heap} {locs : List Loc} (hLI : LI D cs ad am A s.heap T H locs)
    (kk : ∀ (T : Sg) (H : Heap) (locs : List Loc) (cells slots : Nat), LI D cs ad am A s.heap T H locs → cells ≤ 66 + 32 * (j + 1) → slots ≤ 3314 + 96 * (j + 1) → W p l e room_1 s m #[Value.ref b] below meth c H locs cells slots Q (F0 m 479 ls [])) : W p l e room_1 s m #[Value.ref b] below meth c H locs (66 + 32 * j) (3314 + 96 * j) Q (F0 m 314 ls []) := by
  have hx := X.1
  have hb := X.2.1
  obtain ⟨jf, w1, w2, hW, hI, ⟨M, sl, wy, an, hM, hR⟩, hF1, hF2, hdj, hS⟩ := hLI
  refine lv_aload_n hx hb dL_law_314 rfl (lv_at hl 1 rfl) ?_
  refine lv_aload_n hx hb dL_law_315 rfl (lv_at hl 0 rfl) ?_
  refine lv_iload_n hx hb dL_law_316 rfl (lv_at hl 3 rfl) ?_
  refine lv_iconst (v := 1) hx hb dL_law_317 (by decide) ?_
  refine lv_iadd hx hb dL_law_318 ?_
  refine va_sld hx hb hX hbl hbA hS (i := nI (7 * j) + 1) (law_in (i := 7 * j) (k := 1) (by omega) hL) dL_law_319 ?_
  refine fw_callV (As := [.int (xs (nI (7 * j) + 1).toNatClampNeg)]) (rest := []) X bs_all nw_all mf_X8_tally (c_X8_tally l D cs _ _ ad T jf hW (xs (nI (7 * j) + 1).toNatClampNeg)) wm_426 wm_427 wm_428 hF1 hS rfl hW.2.1 rfl rfl ((⟨⟨Nat.le_of_ble_eq_true rfl, Nat.le_of_ble_eq_true rfl⟩, (by show 66 + 32 * j + 0 ≤ 600000; omega), (by show 3314 + 96 * j + 0 ≤ 7302250; omega)⟩)) rfl hl.1 rfl (Nat.le_of_ble_eq_true rfl) dL_law_320 (fun v u1 H1 locs1 hp hF1 hS1 hz hk hd => ?_)
  obtain ⟨hF2a, hdj1⟩ := fw_ap hF2 hdj hk hd
  obtain ⟨rfl, hw1⟩ := hp
  rw [hw1] at hF1 hdj1
  refine W.eq (g2 := F0 m 323 ls [.int (spTally T (xs (nI (7 * j) + 1).toNatClampNeg))]) rfl ?_
  refine lv_aload_n hx hb dL_law_323 rfl (lv_at hl 2 rfl) ?_
  refine lv_aload_n hx hb dL_law_324 rfl (lv_at hl 0 rfl) ?_
  refine lv_iload_n hx hb dL_law_325 rfl (lv_at hl 3 rfl) ?_
  refine lv_iconst (v := 1) hx hb dL_law_326 (by decide) ?_
  refine lv_iadd hx hb dL_law_327 ?_
  refine va_sld hx hb hX hbl hbA hS1 (i := nI (7 * j) + 1) (law_in (i := 7 * j) (k := 1) (by omega) hL) dL_law_328 ?_
  refine fw_callV (As := [.int (xs (nI (7 * j) + 1).toNatClampNeg)]) (rest := [.int (spTally T (xs (nI (7 * j) + 1).toNatClampNeg))]) X bs_all nw_all mf_X9_tally (c_X9_tally l D cs _ _ am M (tRe T) wy an hM sl T hR rfl hI (xs (nI (7 * j) + 1).toNatClampNeg)) wm_665 wm_666 wm_667 hF2a hS1 rfl hM.2.1 rfl rfl ((⟨⟨Nat.le_of_ble_eq_true rfl, Nat.le_of_ble_eq_true rfl⟩, (by show 66 + 32 * j + 0 + 0 ≤ 600000; omega), (by show 3314 + 96 * j + 0 + 0 ≤ 7302250; omega)⟩)) rfl hl.1 rfl (Nat.le_of_ble_eq_true rfl) dL_law_329 (fun v u2 H2 locs2 hp hF2 hS2 hz hk hd => ?_)
  obtain ⟨hF1a, hdj2⟩ := fw_ap hF1 hdj1.sy hk hd
  obtain ⟨rfl, hM'⟩ := hp
  refine W.eq (g2 := F0 m 332 ls [.int (spTally T (xs (nI (7 * j) + 1).toNatClampNeg)), .int (spTally T (xs (nI (7 * j) + 1).toNatClampNeg))]) rfl ?_
  refine lv_icmp_eq (tgt := 479) hx hb dL_law_332 (by decide) (fun _ => ?_) (fun z => absurd rfl z)
  exact kk T H2 locs2 _ _ ⟨jf, w1, u2, hW, hI, ⟨M, sl, wy, an, hM', hR⟩, hF1a, hF2, hdj2.sy, hS2⟩ (by omega) (by omega)
set_option maxHeartbeats 4000000 in
set_option maxRecDepth 100000 in
theorem law_c7 {p : Program} {l : Launch} {e : Env} {s : State} {m : MethodId} {below : List Frame} {meth : Method} {c : Code} {D : va_G} {cs : Nat → ClassId} {ad am : Nat → Nat} {A : Nat → Prop} {b L j : Nat} {xs : Nat → Int32} {Q : State → Prop} (X : gX p s m #[Value.ref b] meth c cL_law 4 ret "CycleShopLaw" bs_B nw_B D cls10 (tyl cs) A) (hX : va_X b L xs s s.heap) (hbl : b < s.heap.size) (hbA : ¬ A b) (hj : 7 * j + 7 ≤ L) (hL : L ≤ 3584) {ls : Array Slot} (hl : lv_has ls 4 [(0, .ref b), (1, .ref (ad 0)), (2, .ref (am 28)), (3, .int (nI (7 * j)))]) {T : Sg} {H : Heap} {locs : List Loc} (hLI : LI D cs ad am A s.heap T H locs)
    (kk : ∀ (T : Sg) (H : Heap) (locs : List Loc) (cells slots : Nat), LI D cs ad am A s.heap T H locs → cells ≤ 66 + 32 * (j + 1) → slots ≤ 3314 + 96 * (j + 1) → W p l e room_1 s m #[Value.ref b] below meth c H locs cells slots Q (F0 m 479 ls [])) : W p l e room_1 s m #[Value.ref b] below meth c H locs (66 + 32 * j) (3314 + 96 * j) Q (F0 m 337 ls []) := by
  have hx := X.1
  have hb := X.2.1
  obtain ⟨jf, w1, w2, hW, hI, ⟨M, sl, wy, an, hM, hR⟩, hF1, hF2, hdj, hS⟩ := hLI
  refine lv_aload_n hx hb dL_law_337 rfl (lv_at hl 1 rfl) ?_
  refine lv_aload_n hx hb dL_law_338 rfl (lv_at hl 0 rfl) ?_
  refine lv_iload_n hx hb dL_law_339 rfl (lv_at hl 3 rfl) ?_
  refine lv_iconst (v := 1) hx hb dL_law_340 (by decide) ?_
  refine lv_iadd hx hb dL_law_341 ?_
  refine va_sld hx hb hX hbl hbA hS (i := nI (7 * j) + 1) (law_in (i := 7 * j) (k := 1) (by omega) hL) dL_law_342 ?_
  refine lv_aload_n hx hb dL_law_343 rfl (lv_at hl 0 rfl) ?_
  refine lv_iload_n hx hb dL_law_344 rfl (lv_at hl 3 rfl) ?_
  refine lv_iconst (v := 2) hx hb dL_law_345 (by decide) ?_
  refine lv_iadd hx hb dL_law_346 ?_
  refine va_sld hx hb hX hbl hbA hS (i := nI (7 * j) + 2) (law_in (i := 7 * j) (k := 2) (by omega) hL) dL_law_347 ?_
  refine fw_callV (As := [.int (xs (nI (7 * j) + 1).toNatClampNeg), .int (xs (nI (7 * j) + 2).toNatClampNeg)]) (rest := []) X bs_all nw_all mf_X8_stand (c_X8_stand l D cs _ _ ad T jf hW hI (xs (nI (7 * j) + 1).toNatClampNeg) (xs (nI (7 * j) + 2).toNatClampNeg)) wm_430 wm_431 wm_432 hF1 hS rfl hW.2.1 rfl rfl ((⟨⟨Nat.le_of_ble_eq_true rfl, Nat.le_of_ble_eq_true rfl⟩, (by show 66 + 32 * j + 0 ≤ 600000; omega), (by show 3314 + 96 * j + 0 ≤ 7302250; omega)⟩)) rfl hl.1 rfl (Nat.le_of_ble_eq_true rfl) dL_law_348 (fun v u1 H1 locs1 hp hF1 hS1 hz hk hd => ?_)
  obtain ⟨hF2a, hdj1⟩ := fw_ap hF2 hdj hk hd
  obtain ⟨rfl, hw1⟩ := hp
  rw [hw1] at hF1 hdj1
  refine W.eq (g2 := F0 m 351 ls [.int (spStand T (xs (nI (7 * j) + 1).toNatClampNeg) (xs (nI (7 * j) + 2).toNatClampNeg))]) rfl ?_
  refine lv_aload_n hx hb dL_law_351 rfl (lv_at hl 2 rfl) ?_
  refine lv_aload_n hx hb dL_law_352 rfl (lv_at hl 0 rfl) ?_
  refine lv_iload_n hx hb dL_law_353 rfl (lv_at hl 3 rfl) ?_
  refine lv_iconst (v := 1) hx hb dL_law_354 (by decide) ?_
  refine lv_iadd hx hb dL_law_355 ?_
  refine va_sld hx hb hX hbl hbA hS1 (i := nI (7 * j) + 1) (law_in (i := 7 * j) (k := 1) (by omega) hL) dL_law_356 ?_
  refine lv_aload_n hx hb dL_law_357 rfl (lv_at hl 0 rfl) ?_
  refine lv_iload_n hx hb dL_law_358 rfl (lv_at hl 3 rfl) ?_
  refine lv_iconst (v := 2) hx hb dL_law_359 (by decide) ?_
  refine lv_iadd hx hb dL_law_360 ?_
  refine va_sld hx hb hX hbl hbA hS1 (i := nI (7 * j) + 2) (law_in (i := 7 * j) (k := 2) (by omega) hL) dL_law_361 ?_
  refine fw_callV (As := [.int (xs (nI (7 * j) + 1).toNatClampNeg), .int (xs (nI (7 * j) + 2).toNatClampNeg)]) (rest := [.int (spStand T (xs (nI (7 * j) + 1).toNatClampNeg) (xs (nI (7 * j) + 2).toNatClampNeg))]) X bs_all nw_all mf_X9_stand (c_X9_stand l D cs _ _ am M (tRe T) wy an hM sl T hR rfl hI (xs (nI (7 * j) + 1).toNatClampNeg) (xs (nI (7 * j) + 2).toNatClampNeg)) wm_670 wm_671 wm_672 hF2a hS1 rfl hM.2.1 rfl rfl ((⟨⟨Nat.le_of_ble_eq_true rfl, Nat.le_of_ble_eq_true rfl⟩, (by show 66 + 32 * j + 0 + 0 ≤ 600000; omega), (by show 3314 + 96 * j + 0 + 0 ≤ 7302250; omega)⟩)) rfl hl.1 rfl (Nat.le_of_ble_eq_true rfl) dL_law_362 (fun v u2 H2 locs2 hp hF2 hS2 hz hk hd => ?_)
  obtain ⟨hF1a, hdj2⟩ := fw_ap hF1 hdj1.sy hk hd
  obtain ⟨rfl, hM'⟩ := hp
  refine W.eq (g2 := F0 m 365 ls [.int (spStand T (xs (nI (7 * j) + 1).toNatClampNeg) (xs (nI (7 * j) + 2).toNatClampNeg)), .int (spStand T (xs (nI (7 * j) + 1).toNatClampNeg) (xs (nI (7 * j) + 2).toNatClampNeg))]) rfl ?_
  refine lv_icmp_eq (tgt := 479) hx hb dL_law_365 (by decide) (fun _ => ?_) (fun z => absurd rfl z)
  exact kk T H2 locs2 _ _ ⟨jf, w1, u2, hW, hI, ⟨M, sl, wy, an, hM', hR⟩, hF1a, hF2, hdj2.sy, hS2⟩ (by omega) (by omega)
set_option maxHeartbeats 4000000 in
set_option maxRecDepth 100000 in
theorem law_c8 {p : Program} {l : Launch} {e : Env} {s : State} {m : MethodId} {below : List Frame} {meth : Method} {c : Code} {D : va_G} {cs : Nat → ClassId} {ad am : Nat → Nat} {A : Nat → Prop} {b L j : Nat} {xs : Nat → Int32} {Q : State → Prop} (X : gX p s m #[Value.ref b] meth c cL_law 4 ret "CycleShopLaw" bs_B nw_B D cls10 (tyl cs) A) (hX : va_X b L xs s s.heap) (hbl : b < s.heap.size) (hbA : ¬ A b) (hj : 7 * j + 7 ≤ L) (hL : L ≤ 3584) {ls : Array Slot} (hl : lv_has ls 4 [(0, .ref b), (1, .ref (ad 0)), (2, .ref (am 28)), (3, .int (nI (7 * j)))]) {T : Sg} {H : Heap} {locs : List Loc} (hLI : LI D cs ad am A s.heap T H locs)
    (kk : ∀ (T : Sg) (H : Heap) (locs : List Loc) (cells slots : Nat), LI D cs ad am A s.heap T H locs → cells ≤ 66 + 32 * (j + 1) → slots ≤ 3314 + 96 * (j + 1) → W p l e room_1 s m #[Value.ref b] below meth c H locs cells slots Q (F0 m 479 ls [])) : W p l e room_1 s m #[Value.ref b] below meth c H locs (66 + 32 * j) (3314 + 96 * j) Q (F0 m 370 ls []) := by
  have hx := X.1
  have hb := X.2.1
  obtain ⟨jf, w1, w2, hW, hI, ⟨M, sl, wy, an, hM, hR⟩, hF1, hF2, hdj, hS⟩ := hLI
  refine lv_aload_n hx hb dL_law_370 rfl (lv_at hl 1 rfl) ?_
  refine lv_aload_n hx hb dL_law_371 rfl (lv_at hl 0 rfl) ?_
  refine lv_iload_n hx hb dL_law_372 rfl (lv_at hl 3 rfl) ?_
  refine lv_iconst (v := 1) hx hb dL_law_373 (by decide) ?_
  refine lv_iadd hx hb dL_law_374 ?_
  refine va_sld hx hb hX hbl hbA hS (i := nI (7 * j) + 1) (law_in (i := 7 * j) (k := 1) (by omega) hL) dL_law_375 ?_
  refine lv_aload_n hx hb dL_law_376 rfl (lv_at hl 0 rfl) ?_
  refine lv_iload_n hx hb dL_law_377 rfl (lv_at hl 3 rfl) ?_
  refine lv_iconst (v := 2) hx hb dL_law_378 (by decide) ?_
  refine lv_iadd hx hb dL_law_379 ?_
  refine va_sld hx hb hX hbl hbA hS (i := nI (7 * j) + 2) (law_in (i := 7 * j) (k := 2) (by omega) hL) dL_law_380 ?_
  refine fw_callV (As := [.int (xs (nI (7 * j) + 1).toNatClampNeg), .int (xs (nI (7 * j) + 2).toNatClampNeg)]) (rest := []) X bs_all nw_all mf_X8_basket (c_X8_basket l D cs _ _ ad T jf hW hI (xs (nI (7 * j) + 1).toNatClampNeg) (xs (nI (7 * j) + 2).toNatClampNeg)) wm_448 wm_449 wm_450 hF1 hS rfl hW.2.1 rfl rfl ((⟨⟨Nat.le_of_ble_eq_true rfl, Nat.le_of_ble_eq_true rfl⟩, (by show 66 + 32 * j + 0 ≤ 600000; omega), (by show 3314 + 96 * j + 0 ≤ 7302250; omega)⟩)) rfl hl.1 rfl (Nat.le_of_ble_eq_true rfl) dL_law_381 (fun v u1 H1 locs1 hp hF1 hS1 hz hk hd => ?_)
  obtain ⟨hF2a, hdj1⟩ := fw_ap hF2 hdj hk hd
  obtain ⟨rfl, hw1⟩ := hp
  rw [hw1] at hF1 hdj1
  refine W.eq (g2 := F0 m 384 ls [.int (if wi (xs (nI (7 * j) + 1).toNatClampNeg) 4 = true then (if wi (xs (nI (7 * j) + 2).toNatClampNeg) (tBa T (ix (xs (nI (7 * j) + 1).toNatClampNeg))).1 = true then (tBa T (ix (xs (nI (7 * j) + 1).toNatClampNeg))).2 (ix (xs (nI (7 * j) + 2).toNatClampNeg)) else 0) else 0)]) rfl ?_
  refine lv_aload_n hx hb dL_law_384 rfl (lv_at hl 2 rfl) ?_
  refine lv_aload_n hx hb dL_law_385 rfl (lv_at hl 0 rfl) ?_
  refine lv_iload_n hx hb dL_law_386 rfl (lv_at hl 3 rfl) ?_
  refine lv_iconst (v := 1) hx hb dL_law_387 (by decide) ?_
  refine lv_iadd hx hb dL_law_388 ?_
  refine va_sld hx hb hX hbl hbA hS1 (i := nI (7 * j) + 1) (law_in (i := 7 * j) (k := 1) (by omega) hL) dL_law_389 ?_
  refine lv_aload_n hx hb dL_law_390 rfl (lv_at hl 0 rfl) ?_
  refine lv_iload_n hx hb dL_law_391 rfl (lv_at hl 3 rfl) ?_
  refine lv_iconst (v := 2) hx hb dL_law_392 (by decide) ?_
  refine lv_iadd hx hb dL_law_393 ?_
  refine va_sld hx hb hX hbl hbA hS1 (i := nI (7 * j) + 2) (law_in (i := 7 * j) (k := 2) (by omega) hL) dL_law_394 ?_
  refine fw_callV (As := [.int (xs (nI (7 * j) + 1).toNatClampNeg), .int (xs (nI (7 * j) + 2).toNatClampNeg)]) (rest := [.int (if wi (xs (nI (7 * j) + 1).toNatClampNeg) 4 = true then (if wi (xs (nI (7 * j) + 2).toNatClampNeg) (tBa T (ix (xs (nI (7 * j) + 1).toNatClampNeg))).1 = true then (tBa T (ix (xs (nI (7 * j) + 1).toNatClampNeg))).2 (ix (xs (nI (7 * j) + 2).toNatClampNeg)) else 0) else 0)]) X bs_all nw_all mf_X9_basket (c_X9_basket l D cs _ _ am M (tRe T) wy an hM sl T hR rfl hI (xs (nI (7 * j) + 1).toNatClampNeg) (xs (nI (7 * j) + 2).toNatClampNeg)) wm_679 wm_680 wm_681 hF2a hS1 rfl hM.2.1 rfl rfl ((⟨⟨Nat.le_of_ble_eq_true rfl, Nat.le_of_ble_eq_true rfl⟩, (by show 66 + 32 * j + 0 + 0 ≤ 600000; omega), (by show 3314 + 96 * j + 0 + 0 ≤ 7302250; omega)⟩)) rfl hl.1 rfl (Nat.le_of_ble_eq_true rfl) dL_law_395 (fun v u2 H2 locs2 hp hF2 hS2 hz hk hd => ?_)
  obtain ⟨hF1a, hdj2⟩ := fw_ap hF1 hdj1.sy hk hd
  obtain ⟨rfl, hM'⟩ := hp
  refine W.eq (g2 := F0 m 398 ls [.int (if wi (xs (nI (7 * j) + 1).toNatClampNeg) 4 = true then (if wi (xs (nI (7 * j) + 2).toNatClampNeg) (tBa T (ix (xs (nI (7 * j) + 1).toNatClampNeg))).1 = true then (tBa T (ix (xs (nI (7 * j) + 1).toNatClampNeg))).2 (ix (xs (nI (7 * j) + 2).toNatClampNeg)) else 0) else 0), .int (if wi (xs (nI (7 * j) + 1).toNatClampNeg) 4 = true then (if wi (xs (nI (7 * j) + 2).toNatClampNeg) (tBa T (ix (xs (nI (7 * j) + 1).toNatClampNeg))).1 = true then (tBa T (ix (xs (nI (7 * j) + 1).toNatClampNeg))).2 (ix (xs (nI (7 * j) + 2).toNatClampNeg)) else 0) else 0)]) rfl ?_
  refine lv_icmp_eq (tgt := 479) hx hb dL_law_398 (by decide) (fun _ => ?_) (fun z => absurd rfl z)
  exact kk T H2 locs2 _ _ ⟨jf, w1, u2, hW, hI, ⟨M, sl, wy, an, hM', hR⟩, hF1a, hF2, hdj2.sy, hS2⟩ (by omega) (by omega)
set_option maxHeartbeats 4000000 in
set_option maxRecDepth 100000 in
theorem law_c9 {p : Program} {l : Launch} {e : Env} {s : State} {m : MethodId} {below : List Frame} {meth : Method} {c : Code} {D : va_G} {cs : Nat → ClassId} {ad am : Nat → Nat} {A : Nat → Prop} {b L j : Nat} {xs : Nat → Int32} {Q : State → Prop} (X : gX p s m #[Value.ref b] meth c cL_law 4 ret "CycleShopLaw" bs_B nw_B D cls10 (tyl cs) A) (hX : va_X b L xs s s.heap) (hbl : b < s.heap.size) (hbA : ¬ A b) (hj : 7 * j + 7 ≤ L) (hL : L ≤ 3584) {ls : Array Slot} (hl : lv_has ls 4 [(0, .ref b), (1, .ref (ad 0)), (2, .ref (am 28)), (3, .int (nI (7 * j)))]) {T : Sg} {H : Heap} {locs : List Loc} (hLI : LI D cs ad am A s.heap T H locs)
    (kk : ∀ (T : Sg) (H : Heap) (locs : List Loc) (cells slots : Nat), LI D cs ad am A s.heap T H locs → cells ≤ 66 + 32 * (j + 1) → slots ≤ 3314 + 96 * (j + 1) → W p l e room_1 s m #[Value.ref b] below meth c H locs cells slots Q (F0 m 479 ls [])) : W p l e room_1 s m #[Value.ref b] below meth c H locs (66 + 32 * j) (3314 + 96 * j) Q (F0 m 403 ls []) := by
  have hx := X.1
  have hb := X.2.1
  obtain ⟨jf, w1, w2, hW, hI, ⟨M, sl, wy, an, hM, hR⟩, hF1, hF2, hdj, hS⟩ := hLI
  refine lv_aload_n hx hb dL_law_403 rfl (lv_at hl 1 rfl) ?_
  refine lv_aload_n hx hb dL_law_404 rfl (lv_at hl 0 rfl) ?_
  refine lv_iload_n hx hb dL_law_405 rfl (lv_at hl 3 rfl) ?_
  refine lv_iconst (v := 1) hx hb dL_law_406 (by decide) ?_
  refine lv_iadd hx hb dL_law_407 ?_
  refine va_sld hx hb hX hbl hbA hS (i := nI (7 * j) + 1) (law_in (i := 7 * j) (k := 1) (by omega) hL) dL_law_408 ?_
  refine lv_aload_n hx hb dL_law_409 rfl (lv_at hl 0 rfl) ?_
  refine lv_iload_n hx hb dL_law_410 rfl (lv_at hl 3 rfl) ?_
  refine lv_iconst (v := 2) hx hb dL_law_411 (by decide) ?_
  refine lv_iadd hx hb dL_law_412 ?_
  refine va_sld hx hb hX hbl hbA hS (i := nI (7 * j) + 2) (law_in (i := 7 * j) (k := 2) (by omega) hL) dL_law_413 ?_
  refine fw_callV (As := [.int (xs (nI (7 * j) + 1).toNatClampNeg), .int (xs (nI (7 * j) + 2).toNatClampNeg)]) (rest := []) X bs_all nw_all mf_X8_rack (c_X8_rack l D cs _ _ ad T jf hW hI (xs (nI (7 * j) + 1).toNatClampNeg) (xs (nI (7 * j) + 2).toNatClampNeg)) wm_456 wm_457 wm_458 hF1 hS rfl hW.2.1 rfl rfl ((⟨⟨Nat.le_of_ble_eq_true rfl, Nat.le_of_ble_eq_true rfl⟩, (by show 66 + 32 * j + 0 ≤ 600000; omega), (by show 3314 + 96 * j + 0 ≤ 7302250; omega)⟩)) rfl hl.1 rfl (Nat.le_of_ble_eq_true rfl) dL_law_414 (fun v u1 H1 locs1 hp hF1 hS1 hz hk hd => ?_)
  obtain ⟨hF2a, hdj1⟩ := fw_ap hF2 hdj hk hd
  obtain ⟨rfl, hw1⟩ := hp
  rw [hw1] at hF1 hdj1
  refine W.eq (g2 := F0 m 417 ls [.int (spRack T (xs (nI (7 * j) + 1).toNatClampNeg) (xs (nI (7 * j) + 2).toNatClampNeg))]) rfl ?_
  refine lv_aload_n hx hb dL_law_417 rfl (lv_at hl 2 rfl) ?_
  refine lv_aload_n hx hb dL_law_418 rfl (lv_at hl 0 rfl) ?_
  refine lv_iload_n hx hb dL_law_419 rfl (lv_at hl 3 rfl) ?_
  refine lv_iconst (v := 1) hx hb dL_law_420 (by decide) ?_
  refine lv_iadd hx hb dL_law_421 ?_
  refine va_sld hx hb hX hbl hbA hS1 (i := nI (7 * j) + 1) (law_in (i := 7 * j) (k := 1) (by omega) hL) dL_law_422 ?_
  refine lv_aload_n hx hb dL_law_423 rfl (lv_at hl 0 rfl) ?_
  refine lv_iload_n hx hb dL_law_424 rfl (lv_at hl 3 rfl) ?_
  refine lv_iconst (v := 2) hx hb dL_law_425 (by decide) ?_
  refine lv_iadd hx hb dL_law_426 ?_
  refine va_sld hx hb hX hbl hbA hS1 (i := nI (7 * j) + 2) (law_in (i := 7 * j) (k := 2) (by omega) hL) dL_law_427 ?_
  refine fw_callV (As := [.int (xs (nI (7 * j) + 1).toNatClampNeg), .int (xs (nI (7 * j) + 2).toNatClampNeg)]) (rest := [.int (spRack T (xs (nI (7 * j) + 1).toNatClampNeg) (xs (nI (7 * j) + 2).toNatClampNeg))]) X bs_all nw_all mf_X9_rack (c_X9_rack l D cs _ _ am M (tRe T) wy an hM sl T hR rfl hI (xs (nI (7 * j) + 1).toNatClampNeg) (xs (nI (7 * j) + 2).toNatClampNeg)) wm_683 wm_684 wm_685 hF2a hS1 rfl hM.2.1 rfl rfl ((⟨⟨Nat.le_of_ble_eq_true rfl, Nat.le_of_ble_eq_true rfl⟩, (by show 66 + 32 * j + 0 + 0 ≤ 600000; omega), (by show 3314 + 96 * j + 0 + 0 ≤ 7302250; omega)⟩)) rfl hl.1 rfl (Nat.le_of_ble_eq_true rfl) dL_law_428 (fun v u2 H2 locs2 hp hF2 hS2 hz hk hd => ?_)
  obtain ⟨hF1a, hdj2⟩ := fw_ap hF1 hdj1.sy hk hd
  obtain ⟨rfl, hM'⟩ := hp
  refine W.eq (g2 := F0 m 431 ls [.int (spRack T (xs (nI (7 * j) + 1).toNatClampNeg) (xs (nI (7 * j) + 2).toNatClampNeg)), .int (spRack T (xs (nI (7 * j) + 1).toNatClampNeg) (xs (nI (7 * j) + 2).toNatClampNeg))]) rfl ?_
  refine lv_icmp_eq (tgt := 479) hx hb dL_law_431 (by decide) (fun _ => ?_) (fun z => absurd rfl z)
  exact kk T H2 locs2 _ _ ⟨jf, w1, u2, hW, hI, ⟨M, sl, wy, an, hM', hR⟩, hF1a, hF2, hdj2.sy, hS2⟩ (by omega) (by omega)
set_option maxHeartbeats 4000000 in
set_option maxRecDepth 100000 in
theorem law_c10 {p : Program} {l : Launch} {e : Env} {s : State} {m : MethodId} {below : List Frame} {meth : Method} {c : Code} {D : va_G} {cs : Nat → ClassId} {ad am : Nat → Nat} {A : Nat → Prop} {b L j : Nat} {xs : Nat → Int32} {Q : State → Prop} (X : gX p s m #[Value.ref b] meth c cL_law 4 ret "CycleShopLaw" bs_B nw_B D cls10 (tyl cs) A) (hX : va_X b L xs s s.heap) (hbl : b < s.heap.size) (hbA : ¬ A b) (hj : 7 * j + 7 ≤ L) (hL : L ≤ 3584) {ls : Array Slot} (hl : lv_has ls 4 [(0, .ref b), (1, .ref (ad 0)), (2, .ref (am 28)), (3, .int (nI (7 * j)))]) {T : Sg} {H : Heap} {locs : List Loc} (hLI : LI D cs ad am A s.heap T H locs)
    (kk : ∀ (T : Sg) (H : Heap) (locs : List Loc) (cells slots : Nat), LI D cs ad am A s.heap T H locs → cells ≤ 66 + 32 * (j + 1) → slots ≤ 3314 + 96 * (j + 1) → W p l e room_1 s m #[Value.ref b] below meth c H locs cells slots Q (F0 m 479 ls [])) : W p l e room_1 s m #[Value.ref b] below meth c H locs (66 + 32 * j) (3314 + 96 * j) Q (F0 m 436 ls []) := by
  have hx := X.1
  have hb := X.2.1
  obtain ⟨jf, w1, w2, hW, hI, ⟨M, sl, wy, an, hM, hR⟩, hF1, hF2, hdj, hS⟩ := hLI
  refine lv_aload_n hx hb dL_law_436 rfl (lv_at hl 1 rfl) ?_
  refine lv_aload_n hx hb dL_law_437 rfl (lv_at hl 0 rfl) ?_
  refine lv_iload_n hx hb dL_law_438 rfl (lv_at hl 3 rfl) ?_
  refine lv_iconst (v := 1) hx hb dL_law_439 (by decide) ?_
  refine lv_iadd hx hb dL_law_440 ?_
  refine va_sld hx hb hX hbl hbA hS (i := nI (7 * j) + 1) (law_in (i := 7 * j) (k := 1) (by omega) hL) dL_law_441 ?_
  refine lv_aload_n hx hb dL_law_442 rfl (lv_at hl 0 rfl) ?_
  refine lv_iload_n hx hb dL_law_443 rfl (lv_at hl 3 rfl) ?_
  refine lv_iconst (v := 2) hx hb dL_law_444 (by decide) ?_
  refine lv_iadd hx hb dL_law_445 ?_
  refine va_sld hx hb hX hbl hbA hS (i := nI (7 * j) + 2) (law_in (i := 7 * j) (k := 2) (by omega) hL) dL_law_446 ?_
  refine lv_aload_n hx hb dL_law_447 rfl (lv_at hl 0 rfl) ?_
  refine lv_iload_n hx hb dL_law_448 rfl (lv_at hl 3 rfl) ?_
  refine lv_iconst (v := 3) hx hb dL_law_449 (by decide) ?_
  refine lv_iadd hx hb dL_law_450 ?_
  refine va_sld hx hb hX hbl hbA hS (i := nI (7 * j) + 3) (law_in (i := 7 * j) (k := 3) (by omega) hL) dL_law_451 ?_
  refine fw_callV (As := [.int (xs (nI (7 * j) + 1).toNatClampNeg), .int (xs (nI (7 * j) + 2).toNatClampNeg), .int (xs (nI (7 * j) + 3).toNatClampNeg)]) (rest := []) X bs_all nw_all mf_X8_grid (c_X8_grid l D cs _ _ ad T jf hW hI (xs (nI (7 * j) + 1).toNatClampNeg) (xs (nI (7 * j) + 2).toNatClampNeg) (xs (nI (7 * j) + 3).toNatClampNeg)) wm_465 wm_466 wm_467 hF1 hS rfl hW.2.1 rfl rfl ((⟨⟨Nat.le_of_ble_eq_true rfl, Nat.le_of_ble_eq_true rfl⟩, (by show 66 + 32 * j + 0 ≤ 600000; omega), (by show 3314 + 96 * j + 0 ≤ 7302250; omega)⟩)) rfl hl.1 rfl (Nat.le_of_ble_eq_true rfl) dL_law_452 (fun v u1 H1 locs1 hp hF1 hS1 hz hk hd => ?_)
  obtain ⟨hF2a, hdj1⟩ := fw_ap hF2 hdj hk hd
  obtain ⟨rfl, hw1⟩ := hp
  rw [hw1] at hF1 hdj1
  refine W.eq (g2 := F0 m 455 ls [.int (if wi (xs (nI (7 * j) + 1).toNatClampNeg) 4 = true then (if (wi (xs (nI (7 * j) + 2).toNatClampNeg) (tGr T (ix (xs (nI (7 * j) + 1).toNatClampNeg))).1 && wi (xs (nI (7 * j) + 3).toNatClampNeg) (tGr T (ix (xs (nI (7 * j) + 1).toNatClampNeg))).2.1) = true then (tGr T (ix (xs (nI (7 * j) + 1).toNatClampNeg))).2.2 (12 * ix (xs (nI (7 * j) + 2).toNatClampNeg) + ix (xs (nI (7 * j) + 3).toNatClampNeg)) else 0) else 0)]) rfl ?_
  refine lv_aload_n hx hb dL_law_455 rfl (lv_at hl 2 rfl) ?_
  refine lv_aload_n hx hb dL_law_456 rfl (lv_at hl 0 rfl) ?_
  refine lv_iload_n hx hb dL_law_457 rfl (lv_at hl 3 rfl) ?_
  refine lv_iconst (v := 1) hx hb dL_law_458 (by decide) ?_
  refine lv_iadd hx hb dL_law_459 ?_
  refine va_sld hx hb hX hbl hbA hS1 (i := nI (7 * j) + 1) (law_in (i := 7 * j) (k := 1) (by omega) hL) dL_law_460 ?_
  refine lv_aload_n hx hb dL_law_461 rfl (lv_at hl 0 rfl) ?_
  refine lv_iload_n hx hb dL_law_462 rfl (lv_at hl 3 rfl) ?_
  refine lv_iconst (v := 2) hx hb dL_law_463 (by decide) ?_
  refine lv_iadd hx hb dL_law_464 ?_
  refine va_sld hx hb hX hbl hbA hS1 (i := nI (7 * j) + 2) (law_in (i := 7 * j) (k := 2) (by omega) hL) dL_law_465 ?_
  refine lv_aload_n hx hb dL_law_466 rfl (lv_at hl 0 rfl) ?_
  refine lv_iload_n hx hb dL_law_467 rfl (lv_at hl 3 rfl) ?_
  refine lv_iconst (v := 3) hx hb dL_law_468 (by decide) ?_
  refine lv_iadd hx hb dL_law_469 ?_
  refine va_sld hx hb hX hbl hbA hS1 (i := nI (7 * j) + 3) (law_in (i := 7 * j) (k := 3) (by omega) hL) dL_law_470 ?_
  refine fw_callV (As := [.int (xs (nI (7 * j) + 1).toNatClampNeg), .int (xs (nI (7 * j) + 2).toNatClampNeg), .int (xs (nI (7 * j) + 3).toNatClampNeg)]) (rest := [.int (if wi (xs (nI (7 * j) + 1).toNatClampNeg) 4 = true then (if (wi (xs (nI (7 * j) + 2).toNatClampNeg) (tGr T (ix (xs (nI (7 * j) + 1).toNatClampNeg))).1 && wi (xs (nI (7 * j) + 3).toNatClampNeg) (tGr T (ix (xs (nI (7 * j) + 1).toNatClampNeg))).2.1) = true then (tGr T (ix (xs (nI (7 * j) + 1).toNatClampNeg))).2.2 (12 * ix (xs (nI (7 * j) + 2).toNatClampNeg) + ix (xs (nI (7 * j) + 3).toNatClampNeg)) else 0) else 0)]) X bs_all nw_all mf_X9_grid (c_X9_grid l D cs _ _ am M (tRe T) wy an hM sl T hR rfl hI (xs (nI (7 * j) + 1).toNatClampNeg) (xs (nI (7 * j) + 2).toNatClampNeg) (xs (nI (7 * j) + 3).toNatClampNeg)) wm_687 wm_688 wm_689 hF2a hS1 rfl hM.2.1 rfl rfl ((⟨⟨Nat.le_of_ble_eq_true rfl, Nat.le_of_ble_eq_true rfl⟩, (by show 66 + 32 * j + 0 + 0 ≤ 600000; omega), (by show 3314 + 96 * j + 0 + 0 ≤ 7302250; omega)⟩)) rfl hl.1 rfl (Nat.le_of_ble_eq_true rfl) dL_law_471 (fun v u2 H2 locs2 hp hF2 hS2 hz hk hd => ?_)
  obtain ⟨hF1a, hdj2⟩ := fw_ap hF1 hdj1.sy hk hd
  obtain ⟨rfl, hM'⟩ := hp
  refine W.eq (g2 := F0 m 474 ls [.int (if wi (xs (nI (7 * j) + 1).toNatClampNeg) 4 = true then (if (wi (xs (nI (7 * j) + 2).toNatClampNeg) (tGr T (ix (xs (nI (7 * j) + 1).toNatClampNeg))).1 && wi (xs (nI (7 * j) + 3).toNatClampNeg) (tGr T (ix (xs (nI (7 * j) + 1).toNatClampNeg))).2.1) = true then (tGr T (ix (xs (nI (7 * j) + 1).toNatClampNeg))).2.2 (12 * ix (xs (nI (7 * j) + 2).toNatClampNeg) + ix (xs (nI (7 * j) + 3).toNatClampNeg)) else 0) else 0), .int (if wi (xs (nI (7 * j) + 1).toNatClampNeg) 4 = true then (if (wi (xs (nI (7 * j) + 2).toNatClampNeg) (tGr T (ix (xs (nI (7 * j) + 1).toNatClampNeg))).1 && wi (xs (nI (7 * j) + 3).toNatClampNeg) (tGr T (ix (xs (nI (7 * j) + 1).toNatClampNeg))).2.1) = true then (tGr T (ix (xs (nI (7 * j) + 1).toNatClampNeg))).2.2 (12 * ix (xs (nI (7 * j) + 2).toNatClampNeg) + ix (xs (nI (7 * j) + 3).toNatClampNeg)) else 0) else 0)]) rfl ?_
  refine lv_icmp_eq (tgt := 479) hx hb dL_law_474 (by decide) (fun _ => ?_) (fun z => absurd rfl z)
  exact kk T H2 locs2 _ _ ⟨jf, w1, u2, hW, hI, ⟨M, sl, wy, an, hM', hR⟩, hF1a, hF2, hdj2.sy, hS2⟩ (by omega) (by omega)
