theorem inn_cnt {x n : Int32} (h0 : 0 ≤ n) (h16 : n ≤ 16) : inn x.toInt64 0 (n - 1).toInt64 = wi x n := by
  refine inn_wi ?_
  have h1 := Int32.le_iff_toInt_le.mp h0
  have h2 := Int32.le_iff_toInt_le.mp h16
  have e1 : (0 : Int32).toInt = 0 := rfl
  have e2 : (16 : Int32).toInt = 16 := rfl
  rw [Int32.toInt_toInt64, Int32.toInt_sub]
  have e3 : (1 : Int32).toInt = 1 := rfl
  rw [e3]
  have : (n.toInt - 1).bmod (2 ^ 32) = n.toInt - 1 := Int.bmod_eq_of_le (by omega) (by omega)
  exact this
set_option maxHeartbeats 4000000 in
set_option maxRecDepth 100000 in
theorem c_X9_run (l : Launch) (D : va_G) (cs : Nat → ClassId) (w : fW) (sz : Nat) (am : Nat → Nat) (M : Nat → Nat → Int32) (R : aRe) (wy an : Int32) (hM : MWd cs am (M, R, wy, an) w) (sl : Nat → Nat) (T : Sg) (hR : MR sl T M) (hI : Inv T) (j way : Int32) (T' : Sg) (hRun : wi j 4 = true ∧ wi way 2 = true → RunR (ix j) way (ix (tJo T (ix j)).1) 0 (T0r T) T') : gM l bs_B nw_B D cls10 (tyl cs) yX9_run cX9_run 6 (some .int) 5 118 0 0 w sz [.ref (am 28), .int j, .int way] (fun v w' => (¬ (wi j 4 = true ∧ wi way 2 = true) ∧ v = some (.int (-2)) ∧ MWd cs am (M, R, wy, an) w') ∨ ((wi j 4 = true ∧ wi way 2 = true) ∧ v = some (.int (tRe T').1) ∧ ∃ M' sl' wy' an', MWd cs am (M', tRe T', wy', an') w' ∧ MR sl' T' M')) := by
  refine gM.of (by decide +kernel) (Nat.le_of_ble_eq_true rfl) (fun p e s m below meth c A ls X hsz hnm hF hS hl => ?_)
  have hx := X.1
  have hb := X.2.1
  have loop : wi j 4 = true ∧ wi way 2 = true → ∀ n, n < 4 → j = nI n → ∀ (n9 i : Nat), i + n9 = ix (tJo T n).1 → ∀ (U : Sg) (M1 : Nat → Nat → Int32) (sl1 : Nat → Nat) (wy1 an1 : Int32) (w9 : fW) (H : Heap) (locs : List Loc) (ls : Array Slot), Inv U → tJo U = tJo T → MWd cs am (M1, tRe U, wy1, an1) w9 → MR sl1 U M1 → RunR n way n9 i U T' → fw_P D cls10 A w9 H → va_S A s.heap H locs → lv_has ls 6 [(0, .ref (am 28)), (1, .int j), (2, .int way), (3, .int 1), (4, .int (nI i))] → W p l e ({ frames := 5, cells := 0, slots := 0, locals := 118 } : Room) s m ([.ref (am 28), .int j, .int way] : List Value).toArray below meth c H locs 0 0 (MQ below (gQ D cls10 A (fun v w' => (¬ (wi j 4 = true ∧ wi way 2 = true) ∧ v = some (.int (-2)) ∧ MWd cs am (M, R, wy, an) w') ∨ ((wi j 4 = true ∧ wi way 2 = true) ∧ v = some (.int (tRe T').1) ∧ ∃ M' sl' wy' an', MWd cs am (M', tRe T', wy', an') w' ∧ MR sl' T' M'))) ([.ref (am 28), .int j, .int way] : List Value).toArray s 0 0 A) (F0 m 60 ls []) := by
    intro hjw n hn ej n9
    subst ej
    have hcn := (hI.2.2.2.2.1 n hn).1
    have hc16 := (hI.2.2.2.2.1 n hn).2.1
    have hN16 : ix (tJo T n).1 ≤ 16 := ix_le hcn hc16
    clear hR hM hRun
    induction n9 with
    | zero =>
      intro i hi U M1 sl1 wy1 an1 w9 H locs ls hIU hJU hM hR hK hF hS hl
      have hJj : tJo U n = tJo T n := by rw [hJU]
      have hcnU : 0 ≤ (tJo U n).1 := by rw [hJj]; exact hcn
      have hc16U : (tJo U n).1 ≤ 16 := by rw [hJj]; exact hc16
      have hixU : ix (tJo U n).1 = ix (tJo T n).1 := by rw [hJj]
      have hc17 : M1 17 n = (tJo U n).1 := (hR.2.2.2.2.2.2.2.1 n hn).1
      have hK : T' = U := hK
      refine lv_iload hx hb dX9_run_60 (lv_at hl 4 rfl) ?_
      refine lv_aload_n hx hb dX9_run_62 rfl (lv_at hl 0 rfl) ?_
      refine fw_get (v := .ref (am 17)) X gC_ok hF hM.2.1 rfl 17 (by decide) wm_496 rfl dX9_run_63 ?_
      refine lv_iload_n hx hb dX9_run_66 rfl (lv_at hl 1 rfl) ?_
      refine fw_iald X hF (hM.2.2 17 (Or.inl (by decide))) 0 rfl (show vp_in (nI n) 4 from vp_in_nI (by omega) (by decide)) (v := (M1 17) n) (by rw [nI_clamp (by omega)] <;> rfl) dX9_run_67 ?_
      refine lv_icmp_ge (tgt := 167) hx hb dX9_run_68 (by decide) (fun c68_1 => ?_) (fun c68_1 => ?_)
      · refine lv_aload_n hx hb dX9_run_167 rfl (lv_at hl 0 rfl) ?_
        refine fw_get (v := .int ((tRe U).1)) X gC_ok hF hM.2.1 rfl 19 (by decide) wm_498 rfl dX9_run_168 ?_
        refine fw_iret X hF hS ?_ (Nat.le_of_ble_eq_true rfl) (Nat.le_of_ble_eq_true rfl) dX9_run_171
        exact Or.inr ⟨hjw, by rw [hK], M1, sl1, _, _, by rw [hK]; exact hM, by rw [hK]; exact hR⟩
      · exact absurd (by rw [hc17]; exact (cnt_le (i := i) hcnU hc16U (by omega)).mpr (by omega)) c68_1
    | succ n9 ih =>
      intro i hi U M1 sl1 wy1 an1 w9 H locs ls hIU hJU hM hR hK hF hS hl
      have hJj : tJo U n = tJo T n := by rw [hJU]
      have hcnU : 0 ≤ (tJo U n).1 := by rw [hJj]; exact hcn
      have hc16U : (tJo U n).1 ≤ 16 := by rw [hJj]; exact hc16
      have hixU : ix (tJo U n).1 = ix (tJo T n).1 := by rw [hJj]
      have hc17 : M1 17 n = (tJo U n).1 := (hR.2.2.2.2.2.2.2.1 n hn).1
      obtain ⟨q9, hq9, hK⟩ := hK
      have hI1 := hIU.gos (q := q9) (n := nI i) ((hIU.2.2.2.2.1 _ hn).2.2 i (by omega))
      have hJ1 := go_jo q9 ((tJo U n).2 i) (nI i) U
      refine lv_iload hx hb dX9_run_60 (lv_at hl 4 rfl) ?_
      refine lv_aload_n hx hb dX9_run_62 rfl (lv_at hl 0 rfl) ?_
      refine fw_get (v := .ref (am 17)) X gC_ok hF hM.2.1 rfl 17 (by decide) wm_496 rfl dX9_run_63 ?_
      refine lv_iload_n hx hb dX9_run_66 rfl (lv_at hl 1 rfl) ?_
      refine fw_iald X hF (hM.2.2 17 (Or.inl (by decide))) 0 rfl (show vp_in (nI n) 4 from vp_in_nI (by omega) (by decide)) (v := (M1 17) n) (by rw [nI_clamp (by omega)] <;> rfl) dX9_run_67 ?_
      refine lv_icmp_ge (tgt := 167) hx hb dX9_run_68 (by decide) (fun c68_1 => ?_) (fun c68_1 => ?_)
      · exact absurd ((cnt_le (i := i) hcnU hc16U (by omega)).mp (by rw [hc17] at c68_1; exact c68_1)) (by omega)
      · refine lv_iload_n hx hb dX9_run_71 rfl (lv_at hl 3 rfl) ?_
        refine lv_if_eq (tgt := 167) hx hb dX9_run_72 (by decide) (fun h => absurd h (by decide)) (fun _ => ?_)
        refine lv_aload_n hx hb dX9_run_75 rfl (lv_at hl 0 rfl) ?_
        refine lv_iload_n hx hb dX9_run_76 rfl (lv_at hl 1 rfl) ?_
        refine lv_iload hx hb dX9_run_77 (lv_at hl 4 rfl) ?_
        refine fw_callV (As := [.int (nI n), .int (nI i)]) (rest := []) X bs_all nw_all mf_X9_goes (c_X9_goes l D cs _ _ am M1 (tRe U) wy1 an1 hM sl1 U hR rfl hIU q9 hq9 n i hn (by omega)) wm_653 wm_655 wm_22 hF hS rfl hM.2.1 rfl rfl ((⟨⟨Nat.le_of_ble_eq_true rfl, Nat.le_of_ble_eq_true rfl⟩, Nat.le_of_ble_eq_true rfl, Nat.le_of_ble_eq_true rfl⟩)) rfl hl.1 rfl (Nat.le_of_ble_eq_true rfl) dX9_run_79 (fun v u3 H locs hp hF hS hz1 hk1 hd1 => ?_)
        obtain ⟨rfl, M2, sl2, wy2, an2, hM, hR2, hv2⟩ := hp
        generalize hg1 : spGo q9 ((tJo U n).2 i) (nI i) U = g1 at hM hR2 hv2 hI1 hJ1 hK
        refine W.eq (g2 := F0 m 82 ls []) rfl ?_
        refine lv_aload_n hx hb dX9_run_82 rfl (lv_at hl 0 rfl) ?_
        refine fw_get (v := .int wy2) X gC_ok hF hM.2.1 rfl 26 (by decide) wm_505 rfl dX9_run_83 ?_
        refine lv_if_eq (tgt := 161) hx hb dX9_run_86 (by decide) (fun c86_4 => ?_) (fun c86_4 => ?_)
        · rw [if_pos (hv2.mp c86_4)] at hK
          refine lv_iinc (v := nI (i + 1)) (lv' := [(4, .int (nI (i + 1))), (0, .ref (am 28)), (1, .int (nI n)), (2, .int way), (3, .int 1)]) hx hb dX9_run_161 hl (k := 4) rfl (nI_1 i) (by decide) rfl (fun ls hl => ?_)
          refine lv_goto (tgt := 60) hx hb dX9_run_164 (by decide) ?_
          exact ih (i + 1) (by omega) g1.2 M2 sl2 _ _ _ H locs ls hI1 (hJ1.trans hJU) hM hR2 hK hF hS (lv_sub hl [1, 2, 3, 4, 0] rfl)
        · have hf1 : ¬ g1.1 = true := fun z => c86_4 (hv2.mpr z)
          rw [if_neg hf1] at hK
          obtain ⟨q8, hq8, hK⟩ := hK
          have hJ1n : tJo g1.2 n = tJo U n := by rw [hJ1]
          have hm17 : M2 17 n = (tJo U n).1 := by rw [← hJ1n]; exact (hR2.2.2.2.2.2.2.2.1 n hn).1
          have hm18 : M2 18 (5 * (16 * n + i) + 4) = ((tJo U n).2 i).2.2.2.2 := by rw [← hJ1n]; exact ((hR2.2.2.2.2.2.2.2.1 n hn).2 i (by rw [hJ1n]; omega)).2.2.2.2
          have hi16 : i < 16 := by omega
          refine lv_aload_n hx hb dX9_run_89 rfl (lv_at hl 0 rfl) ?_
          refine fw_get (v := .ref (am 18)) X gC_ok hF hM.2.1 rfl 18 (by decide) wm_497 rfl dX9_run_90 ?_
          refine lv_iconst (v := 5) hx hb dX9_run_93 (by decide) ?_
          refine lv_bipush (v := 16) hx hb dX9_run_94 (by decide) ?_
          refine lv_iload_n hx hb dX9_run_96 rfl (lv_at hl 1 rfl) ?_
          refine lv_imul hx hb dX9_run_97 ?_
          refine lv_iload hx hb dX9_run_98 (lv_at hl 4 rfl) ?_
          refine lv_iadd hx hb dX9_run_100 ?_
          refine lv_imul hx hb dX9_run_101 ?_
          refine lv_iconst (v := 4) hx hb dX9_run_102 (by decide) ?_
          refine lv_iadd hx hb dX9_run_103 ?_
          refine fw_iald X hF (hM.2.2 18 (Or.inl (by decide))) 0 rfl (show vp_in ((5 * ((16 * (nI n)) + (nI i))) + 4) 320 by rw [(show (5 * ((16 * (nI n)) + (nI i))) + 4 = nI (5 * (16 * n + i) + 4) by simp only [and_sb, and_sb1, nl1, nl2, nl3, nl4, nl5, nl16, nl20, nl400, pk_mul, nI_add])]; exact vp_in_nI (by omega) (by decide)) (v := (M2 18) (5 * (16 * n + i) + 4)) (by rw [(show (5 * ((16 * (nI n)) + (nI i))) + 4 = nI (5 * (16 * n + i) + 4) by simp only [and_sb, and_sb1, nl1, nl2, nl3, nl4, nl5, nl16, nl20, nl400, pk_mul, nI_add]), nI_clamp (by omega)] <;> rfl) dX9_run_104 ?_
          refine lv_istore (lv' := [(5, .int ((M2 18) (5 * (16 * n + i) + 4))), (0, .ref (am 28)), (1, .int (nI n)), (2, .int way), (3, .int 1), (4, .int (nI i))]) hx hb dX9_run_105 hl (by decide) rfl (fun ls hl => ?_)
          refine lv_iload hx hb dX9_run_107 (lv_at hl 0 rfl) ?_
          refine lv_i2l hx hb dX9_run_109 rfl ?_
          refine lv_lconst (v := 0) hx hb dX9_run_110 (by decide) ?_
          refine lv_aload_n hx hb dX9_run_111 rfl (lv_at hl 1 rfl) ?_
          refine fw_get (v := .ref (am 17)) X gC_ok hF hM.2.1 rfl 17 (by decide) wm_496 rfl dX9_run_112 ?_
          refine lv_iload_n hx hb dX9_run_115 rfl (lv_at hl 2 rfl) ?_
          refine fw_iald X hF (hM.2.2 17 (Or.inl (by decide))) 0 rfl (show vp_in (nI n) 4 from vp_in_nI (by omega) (by decide)) (v := (M2 17) n) (by rw [nI_clamp (by omega)] <;> rfl) dX9_run_116 ?_
          refine lv_iconst (v := 1) hx hb dX9_run_117 (by decide) ?_
          refine lv_isub hx hb dX9_run_118 ?_
          refine lv_i2l hx hb dX9_run_119 rfl ?_
          refine fw_callS (As := [.long (((M2 18) (5 * (16 * n + i) + 4)).toInt64), .long 0, .long ((((M2 17) n) - 1).toInt64)]) (rest := []) X bs_all nw_all mf_X9_in (c_X9_in l D cs _ _ (((M2 18) (5 * (16 * n + i) + 4)).toInt64) 0 ((((M2 17) n) - 1).toInt64)) wm_573 wm_574 hF hS rfl ((⟨⟨Nat.le_of_ble_eq_true rfl, Nat.le_of_ble_eq_true rfl⟩, Nat.le_of_ble_eq_true rfl, Nat.le_of_ble_eq_true rfl⟩)) rfl hl.1 rfl (Nat.le_of_ble_eq_true rfl) dX9_run_120 (fun v u5 H locs hp hF hS hz1 hk1 hd1 => ?_)
          obtain ⟨rfl, hw1⟩ := hp
          rw [hw1] at hF
          refine W.eq (g2 := F0 m 123 ls [.int (bz (inn (((M2 18) (5 * (16 * n + i) + 4)).toInt64) 0 ((((M2 17) n) - 1).toInt64)))]) rfl ?_
          refine gx_ifeq (tgt := 143) hx hb dX9_run_123 (by decide) (fun c123_6 => ?_) (fun c123_6 => ?_)
          · rw [hm17, inn_cnt hcnU hc16U, hm18] at c123_6
            have eIn : spIn q8 n ((tJo U n).2 i) g1.2 = (false, g1.2) := by unfold spIn; rw [hJ1n, if_neg (by rw [c123_6]; decide)]
            rw [eIn] at hK
            refine lv_aload_n hx hb dX9_run_143 rfl (lv_at hl 1 rfl) ?_
            refine fw_get (v := .int wy2) X gC_ok hF hM.2.1 rfl 26 (by decide) wm_505 rfl dX9_run_144 ?_
            refine lv_if_eq (tgt := 155) hx hb dX9_run_147 (by decide) (fun c147_7 => ?_) (fun c147_7 => ?_)
            · exact absurd c147_7 c86_4
            · refine lv_iload_n hx hb dX9_run_150 rfl (lv_at hl 3 rfl) ?_
              refine lv_iconst (v := 1) hx hb dX9_run_151 (by decide) ?_
              refine lv_icmp_ne (tgt := 159) hx hb dX9_run_152 (by decide) (fun c152_8 => ?_) (fun c152_8 => ?_)
              · rw [if_neg (fun z => z.elim (fun z => Bool.false_ne_true z) c152_8)] at hK
                subst hK
                refine lv_iconst (v := 0) hx hb dX9_run_159 (by decide) ?_
                refine lv_istore_n (lv' := [(3, .int 0), (5, .int ((M2 18) (5 * (16 * n + i) + 4))), (0, .ref (am 28)), (1, .int (nI n)), (2, .int way), (4, .int (nI i))]) hx hb dX9_run_160 rfl hl (by decide) rfl (fun ls hl => ?_)
                refine lv_iinc (v := nI (i + 1)) (lv' := [(4, .int (nI (i + 1))), (3, .int 0), (5, .int ((M2 18) (5 * (16 * n + i) + 4))), (0, .ref (am 28)), (1, .int (nI n)), (2, .int way)]) hx hb dX9_run_161 hl (k := 5) rfl (nI_1 i) (by decide) rfl (fun ls hl => ?_)
                refine lv_goto (tgt := 60) hx hb dX9_run_164 (by decide) ?_
                refine lv_iload hx hb dX9_run_60 (lv_at hl 0 rfl) ?_
                refine lv_aload_n hx hb dX9_run_62 rfl (lv_at hl 3 rfl) ?_
                refine fw_get (v := .ref (am 17)) X gC_ok hF hM.2.1 rfl 17 (by decide) wm_496 rfl dX9_run_63 ?_
                refine lv_iload_n hx hb dX9_run_66 rfl (lv_at hl 4 rfl) ?_
                refine fw_iald X hF (hM.2.2 17 (Or.inl (by decide))) 0 rfl (show vp_in (nI n) 4 from vp_in_nI (by omega) (by decide)) (v := (M2 17) n) (by rw [nI_clamp (by omega)] <;> rfl) dX9_run_67 ?_
                refine lv_icmp_ge (tgt := 167) hx hb dX9_run_68 (by decide) (fun c68_9 => ?_) (fun c68_9 => ?_)
                · refine lv_aload_n hx hb dX9_run_167 rfl (lv_at hl 3 rfl) ?_
                  refine fw_get (v := .int ((tRe g1.2).1)) X gC_ok hF hM.2.1 rfl 19 (by decide) wm_498 rfl dX9_run_168 ?_
                  refine fw_iret X hF hS ?_ (Nat.le_of_ble_eq_true rfl) (Nat.le_of_ble_eq_true rfl) dX9_run_171
                  exact Or.inr ⟨hjw, rfl, M2, sl2, _, _, hM, hR2⟩
                · refine lv_iload_n hx hb dX9_run_71 rfl (lv_at hl 1 rfl) ?_
                  refine lv_if_eq (tgt := 167) hx hb dX9_run_72 (by decide) (fun _ => ?_) (fun h => absurd h (by decide))
                  refine lv_aload_n hx hb dX9_run_167 rfl (lv_at hl 3 rfl) ?_
                  refine fw_get (v := .int ((tRe g1.2).1)) X gC_ok hF hM.2.1 rfl 19 (by decide) wm_498 rfl dX9_run_168 ?_
                  refine fw_iret X hF hS ?_ (Nat.le_of_ble_eq_true rfl) (Nat.le_of_ble_eq_true rfl) dX9_run_171
                  exact Or.inr ⟨hjw, rfl, M2, sl2, _, _, hM, hR2⟩
              · rw [if_pos (Or.inr c152_8)] at hK
                refine lv_iconst (v := 1) hx hb dX9_run_155 (by decide) ?_
                refine lv_goto (tgt := 160) hx hb dX9_run_156 (by decide) ?_
                refine lv_istore_n (lv' := [(3, .int 1), (5, .int ((M2 18) (5 * (16 * n + i) + 4))), (0, .ref (am 28)), (1, .int (nI n)), (2, .int way), (4, .int (nI i))]) hx hb dX9_run_160 rfl hl (by decide) rfl (fun ls hl => ?_)
                refine lv_iinc (v := nI (i + 1)) (lv' := [(4, .int (nI (i + 1))), (3, .int 1), (5, .int ((M2 18) (5 * (16 * n + i) + 4))), (0, .ref (am 28)), (1, .int (nI n)), (2, .int way)]) hx hb dX9_run_161 hl (k := 5) rfl (nI_1 i) (by decide) rfl (fun ls hl => ?_)
                refine lv_goto (tgt := 60) hx hb dX9_run_164 (by decide) ?_
                exact ih (i + 1) (by omega) g1.2 M2 sl2 _ _ _ H locs ls hI1 (hJ1.trans hJU) hM hR2 hK hF hS (lv_sub hl [3, 4, 5, 1, 0] rfl)
          · rw [hm17, inn_cnt hcnU hc16U, hm18] at c123_6
            obtain ⟨d9, hd16, ed⟩ := vp_in_of (wi_in (wi_le c123_6 hc16U) (N := 16) (by decide)) (by decide)
            have hid : ix (nI d9) = d9 := nI_clamp (by omega)
            have hd9 : d9 < ix (tJo U n).1 := by have := ix_lt c123_6; rw [ed, hid] at this; exact this
            have eIn : spIn q8 n ((tJo U n).2 i) g1.2 = spGo q8 ((tJo U n).2 d9) (nI d9) (stI1 g1.2) := by unfold spIn; rw [hJ1n, if_pos c123_6, ed, hid]
            have hI2 := hI1.ins (q := q8) (x := ((tJo U n).2 i)) hn
            have hJ2 := in_jo q8 n ((tJo U n).2 i) g1.2
            rw [eIn] at hI2 hJ2 hK
            refine lv_aload_n hx hb dX9_run_126 rfl (lv_at hl 1 rfl) ?_
            refine lv_dup hx hb dX9_run_127 rfl ?_
            refine fw_get (v := .int ((tRe g1.2).2.2.2.2.1)) X gC_ok hF hM.2.1 rfl 23 (by decide) wm_502 rfl dX9_run_128 ?_
            refine lv_iconst (v := 1) hx hb dX9_run_131 (by decide) ?_
            refine lv_iadd hx hb dX9_run_132 ?_
            refine fw_put X gC_ok hF hS hM.2.1 rfl 23 (by decide) wm_502 rfl (tf := .int) (by decide +kernel) rfl rfl (Nat.le_of_ble_eq_true rfl) dX9_run_133 (fun H locs hF hS => ?_)
            obtain ⟨u11, hu11⟩ : ∃ y : fW, y = va_up u3 (am 28) (some (mObj am (M2, ((tRe g1.2).1, (tRe g1.2).2.1, (tRe g1.2).2.2.1, (tRe g1.2).2.2.2.1, ((tRe g1.2).2.2.2.2.1) + 1, (tRe g1.2).2.2.2.2.2), wy2, an2))) := ⟨_, rfl⟩
            have hM := hM.obj ((tRe g1.2).1, (tRe g1.2).2.1, (tRe g1.2).2.2.1, (tRe g1.2).2.2.2.1, ((tRe g1.2).2.2.2.2.1) + 1, (tRe g1.2).2.2.2.2.2) wy2 an2
            have hF : fw_P D cls10 A u11 H := by rw [hu11]; exact hF
            have hM : MWd cs am (M2, ((tRe g1.2).1, (tRe g1.2).2.1, (tRe g1.2).2.2.1, (tRe g1.2).2.2.2.1, ((tRe g1.2).2.2.2.2.1) + 1, (tRe g1.2).2.2.2.2.2), wy2, an2) u11 := by rw [hu11]; exact hM
            refine lv_aload_n hx hb dX9_run_136 rfl (lv_at hl 1 rfl) ?_
            refine lv_iload_n hx hb dX9_run_137 rfl (lv_at hl 2 rfl) ?_
            refine lv_iload hx hb dX9_run_138 (lv_at hl 0 rfl) ?_
            rw [hm18, ed]
            refine W.eq (g2 := F0 m 140 ls [.int (nI d9), .int (nI n), .ref (am 28)]) rfl ?_
            refine fw_callV (As := [.int (nI n), .int (nI d9)]) (rest := []) X bs_all nw_all mf_X9_goes (c_X9_goes l D cs _ _ am M2 ((tRe g1.2).1, (tRe g1.2).2.1, (tRe g1.2).2.2.1, (tRe g1.2).2.2.2.1, ((tRe g1.2).2.2.2.2.1) + 1, (tRe g1.2).2.2.2.2.2) wy2 an2 hM sl2 (stI1 g1.2) hR2 rfl hI1 q8 hq8 n d9 hn (show d9 < ix (tJo g1.2 n).1 by rw [hJ1]; exact hd9)) wm_653 wm_655 wm_22 hF hS rfl hM.2.1 rfl rfl ((⟨⟨Nat.le_of_ble_eq_true rfl, Nat.le_of_ble_eq_true rfl⟩, Nat.le_of_ble_eq_true rfl, Nat.le_of_ble_eq_true rfl⟩)) rfl hl.1 rfl (Nat.le_of_ble_eq_true rfl) dX9_run_140 (fun v u12 H locs hp hF hS hz1 hk1 hd1 => ?_)
            rw [show (tJo (stI1 g1.2) n).2 = (tJo U n).2 by rw [show tJo (stI1 g1.2) = tJo g1.2 from rfl, hJ1]] at hp
            obtain ⟨rfl, M3, sl3, wy3, an3, hM, hR3, hv3⟩ := hp
            generalize hg2 : spGo q8 ((tJo U n).2 d9) (nI d9) (stI1 g1.2) = g2 at hM hR3 hv3 hI2 hJ2 hK
            refine W.eq (g2 := F0 m 143 ls []) rfl ?_
            refine lv_aload_n hx hb dX9_run_143 rfl (lv_at hl 1 rfl) ?_
            refine fw_get (v := .int wy3) X gC_ok hF hM.2.1 rfl 26 (by decide) wm_505 rfl dX9_run_144 ?_
            refine lv_if_eq (tgt := 155) hx hb dX9_run_147 (by decide) (fun c147_13 => ?_) (fun c147_13 => ?_)
            · rw [if_pos (Or.inl (hv3.mp c147_13))] at hK
              refine lv_iconst (v := 1) hx hb dX9_run_155 (by decide) ?_
              refine lv_goto (tgt := 160) hx hb dX9_run_156 (by decide) ?_
              refine lv_istore_n (lv' := [(3, .int 1), (5, .int ((M2 18) (5 * (16 * n + i) + 4))), (0, .ref (am 28)), (1, .int (nI n)), (2, .int way), (4, .int (nI i))]) hx hb dX9_run_160 rfl hl (by decide) rfl (fun ls hl => ?_)
              refine lv_iinc (v := nI (i + 1)) (lv' := [(4, .int (nI (i + 1))), (3, .int 1), (5, .int ((M2 18) (5 * (16 * n + i) + 4))), (0, .ref (am 28)), (1, .int (nI n)), (2, .int way)]) hx hb dX9_run_161 hl (k := 5) rfl (nI_1 i) (by decide) rfl (fun ls hl => ?_)
              refine lv_goto (tgt := 60) hx hb dX9_run_164 (by decide) ?_
              exact ih (i + 1) (by omega) g2.2 M3 sl3 _ _ _ H locs ls hI2 (hJ2.trans (hJ1.trans hJU)) hM hR3 hK hF hS (lv_sub hl [3, 4, 5, 1, 0] rfl)
            · refine lv_iload_n hx hb dX9_run_150 rfl (lv_at hl 3 rfl) ?_
              refine lv_iconst (v := 1) hx hb dX9_run_151 (by decide) ?_
              refine lv_icmp_ne (tgt := 159) hx hb dX9_run_152 (by decide) (fun c152_14 => ?_) (fun c152_14 => ?_)
              · rw [if_neg (fun z => z.elim (fun z => c147_13 (hv3.mpr z)) c152_14)] at hK
                subst hK
                refine lv_iconst (v := 0) hx hb dX9_run_159 (by decide) ?_
                refine lv_istore_n (lv' := [(3, .int 0), (5, .int ((M2 18) (5 * (16 * n + i) + 4))), (0, .ref (am 28)), (1, .int (nI n)), (2, .int way), (4, .int (nI i))]) hx hb dX9_run_160 rfl hl (by decide) rfl (fun ls hl => ?_)
                refine lv_iinc (v := nI (i + 1)) (lv' := [(4, .int (nI (i + 1))), (3, .int 0), (5, .int ((M2 18) (5 * (16 * n + i) + 4))), (0, .ref (am 28)), (1, .int (nI n)), (2, .int way)]) hx hb dX9_run_161 hl (k := 5) rfl (nI_1 i) (by decide) rfl (fun ls hl => ?_)
                refine lv_goto (tgt := 60) hx hb dX9_run_164 (by decide) ?_
                refine lv_iload hx hb dX9_run_60 (lv_at hl 0 rfl) ?_
                refine lv_aload_n hx hb dX9_run_62 rfl (lv_at hl 3 rfl) ?_
                refine fw_get (v := .ref (am 17)) X gC_ok hF hM.2.1 rfl 17 (by decide) wm_496 rfl dX9_run_63 ?_
                refine lv_iload_n hx hb dX9_run_66 rfl (lv_at hl 4 rfl) ?_
                refine fw_iald X hF (hM.2.2 17 (Or.inl (by decide))) 0 rfl (show vp_in (nI n) 4 from vp_in_nI (by omega) (by decide)) (v := (M3 17) n) (by rw [nI_clamp (by omega)] <;> rfl) dX9_run_67 ?_
                refine lv_icmp_ge (tgt := 167) hx hb dX9_run_68 (by decide) (fun c68_15 => ?_) (fun c68_15 => ?_)
                · refine lv_aload_n hx hb dX9_run_167 rfl (lv_at hl 3 rfl) ?_
                  refine fw_get (v := .int ((tRe g2.2).1)) X gC_ok hF hM.2.1 rfl 19 (by decide) wm_498 rfl dX9_run_168 ?_
                  refine fw_iret X hF hS ?_ (Nat.le_of_ble_eq_true rfl) (Nat.le_of_ble_eq_true rfl) dX9_run_171
                  exact Or.inr ⟨hjw, rfl, M3, sl3, _, _, hM, hR3⟩
                · refine lv_iload_n hx hb dX9_run_71 rfl (lv_at hl 1 rfl) ?_
                  refine lv_if_eq (tgt := 167) hx hb dX9_run_72 (by decide) (fun _ => ?_) (fun h => absurd h (by decide))
                  refine lv_aload_n hx hb dX9_run_167 rfl (lv_at hl 3 rfl) ?_
                  refine fw_get (v := .int ((tRe g2.2).1)) X gC_ok hF hM.2.1 rfl 19 (by decide) wm_498 rfl dX9_run_168 ?_
                  refine fw_iret X hF hS ?_ (Nat.le_of_ble_eq_true rfl) (Nat.le_of_ble_eq_true rfl) dX9_run_171
                  exact Or.inr ⟨hjw, rfl, M3, sl3, _, _, hM, hR3⟩
              · rw [if_pos (Or.inr c152_14)] at hK
                refine lv_iconst (v := 1) hx hb dX9_run_155 (by decide) ?_
                refine lv_goto (tgt := 160) hx hb dX9_run_156 (by decide) ?_
                refine lv_istore_n (lv' := [(3, .int 1), (5, .int ((M2 18) (5 * (16 * n + i) + 4))), (0, .ref (am 28)), (1, .int (nI n)), (2, .int way), (4, .int (nI i))]) hx hb dX9_run_160 rfl hl (by decide) rfl (fun ls hl => ?_)
                refine lv_iinc (v := nI (i + 1)) (lv' := [(4, .int (nI (i + 1))), (3, .int 1), (5, .int ((M2 18) (5 * (16 * n + i) + 4))), (0, .ref (am 28)), (1, .int (nI n)), (2, .int way)]) hx hb dX9_run_161 hl (k := 5) rfl (nI_1 i) (by decide) rfl (fun ls hl => ?_)
                refine lv_goto (tgt := 60) hx hb dX9_run_164 (by decide) ?_
                exact ih (i + 1) (by omega) g2.2 M3 sl3 _ _ _ H locs ls hI2 (hJ2.trans (hJ1.trans hJU)) hM hR3 hK hF hS (lv_sub hl [3, 4, 5, 1, 0] rfl)
  have hl : lv_has ls 6 [(0, .ref (am 28)), (1, .int j), (2, .int way)] := hl
  refine lv_iload_n hx hb dX9_run_0 rfl (lv_at hl 1 rfl) ?_
  refine lv_i2l hx hb dX9_run_1 rfl ?_
  refine lv_lconst (v := 0) hx hb dX9_run_2 (by decide) ?_
  refine lv_ldc2 (v := 3) hx hb X.2.2.2.1 (X.2.2.2.2.1 _ wm_576) dX9_run_3 ?_
  refine fw_callS (As := [.long j.toInt64, .long 0, .long 3]) (rest := []) X bs_all nw_all mf_X9_in (c_X9_in l D cs _ _ j.toInt64 0 3) wm_573 wm_574 hF hS rfl ((⟨⟨Nat.le_of_ble_eq_true rfl, Nat.le_of_ble_eq_true rfl⟩, Nat.le_of_ble_eq_true rfl, Nat.le_of_ble_eq_true rfl⟩)) rfl hl.1 rfl (Nat.le_of_ble_eq_true rfl) dX9_run_6 (fun v u1 H locs hp hF hS hz1 hk1 hd1 => ?_)
  obtain ⟨rfl, hw1⟩ := hp
  rw [hw1] at hF
  refine W.eq (g2 := F0 m 9 ls [.int (bz (inn j.toInt64 0 3))]) rfl ?_
  refine gx_ifeq (tgt := 22) hx hb dX9_run_9 (by decide) (fun c9_2 => ?_) (fun c9_2 => ?_)
  · rw [inn_wi (n := 4) rfl] at c9_2
    refine lv_bipush (v := (-2)) hx hb dX9_run_22 (by decide) ?_
    refine fw_iret X hF hS ?_ (Nat.le_of_ble_eq_true rfl) (Nat.le_of_ble_eq_true rfl) dX9_run_24
    exact Or.inl ⟨(fun z => by rw [c9_2] at z; cases z.1), rfl, hM⟩
  · rw [inn_wi (n := 4) rfl] at c9_2
    obtain ⟨n, hn, ej⟩ := vp_in_of (wi_in c9_2 (N := 4) (by decide)) (by decide)
    subst ej
    have hin : ix (nI n) = n := nI_clamp (by omega)
    have hl : lv_has ls 6 [(0, .ref (am 28)), (1, .int (nI n)), (2, .int way)] := hl
    refine lv_iload_n hx hb dX9_run_12 rfl (lv_at hl 2 rfl) ?_
    refine lv_i2l hx hb dX9_run_13 rfl ?_
    refine lv_lconst (v := 0) hx hb dX9_run_14 (by decide) ?_
    refine lv_lconst (v := 1) hx hb dX9_run_15 (by decide) ?_
    refine fw_callS (As := [.long way.toInt64, .long 0, .long 1]) (rest := []) X bs_all nw_all mf_X9_in (c_X9_in l D cs _ _ way.toInt64 0 1) wm_573 wm_574 hF hS rfl ((⟨⟨Nat.le_of_ble_eq_true rfl, Nat.le_of_ble_eq_true rfl⟩, Nat.le_of_ble_eq_true rfl, Nat.le_of_ble_eq_true rfl⟩)) rfl hl.1 rfl (Nat.le_of_ble_eq_true rfl) dX9_run_16 (fun v u3 H locs hp hF hS hz1 hk1 hd1 => ?_)
    obtain ⟨rfl, hw1⟩ := hp
    rw [hw1] at hF
    refine W.eq (g2 := F0 m 19 ls [.int (bz (inn way.toInt64 0 1))]) rfl ?_
    refine gx_ifne (tgt := 25) hx hb dX9_run_19 (by decide) (fun c19_4 => ?_) (fun c19_4 => ?_)
    · rw [inn_wi (n := 2) rfl] at c19_4
      refine lv_aload_n hx hb dX9_run_25 rfl (lv_at hl 0 rfl) ?_
      refine lv_iconst (v := 0) hx hb dX9_run_26 (by decide) ?_
      refine fw_put X gC_ok hF hS hM.2.1 rfl 19 (by decide) wm_498 rfl (tf := .int) (by decide +kernel) rfl rfl (Nat.le_of_ble_eq_true rfl) dX9_run_27 (fun H locs hF hS => ?_)
      obtain ⟨u5, hu5⟩ : ∃ y : fW, y = va_up w (am 28) (some (mObj am (M, (0, R.2.1, R.2.2.1, R.2.2.2.1, R.2.2.2.2.1, R.2.2.2.2.2), wy, an))) := ⟨_, rfl⟩
      have hM := hM.obj (0, R.2.1, R.2.2.1, R.2.2.2.1, R.2.2.2.2.1, R.2.2.2.2.2) wy an
      have hF : fw_P D cls10 A u5 H := by rw [hu5]; exact hF
      have hM : MWd cs am (M, (0, R.2.1, R.2.2.1, R.2.2.2.1, R.2.2.2.2.1, R.2.2.2.2.2), wy, an) u5 := by rw [hu5]; exact hM
      refine lv_aload_n hx hb dX9_run_30 rfl (lv_at hl 0 rfl) ?_
      refine lv_iconst (v := 0) hx hb dX9_run_31 (by decide) ?_
      refine fw_put X gC_ok hF hS hM.2.1 rfl 20 (by decide) wm_499 rfl (tf := .int) (by decide +kernel) rfl rfl (Nat.le_of_ble_eq_true rfl) dX9_run_32 (fun H locs hF hS => ?_)
      obtain ⟨u6, hu6⟩ : ∃ y : fW, y = va_up u5 (am 28) (some (mObj am (M, (0, 0, R.2.2.1, R.2.2.2.1, R.2.2.2.2.1, R.2.2.2.2.2), wy, an))) := ⟨_, rfl⟩
      have hM := hM.obj (0, 0, R.2.2.1, R.2.2.2.1, R.2.2.2.2.1, R.2.2.2.2.2) wy an
      have hF : fw_P D cls10 A u6 H := by rw [hu6]; exact hF
      have hM : MWd cs am (M, (0, 0, R.2.2.1, R.2.2.2.1, R.2.2.2.2.1, R.2.2.2.2.2), wy, an) u6 := by rw [hu6]; exact hM
      refine lv_aload_n hx hb dX9_run_35 rfl (lv_at hl 0 rfl) ?_
      refine lv_iconst (v := 0) hx hb dX9_run_36 (by decide) ?_
      refine fw_put X gC_ok hF hS hM.2.1 rfl 21 (by decide) wm_500 rfl (tf := .int) (by decide +kernel) rfl rfl (Nat.le_of_ble_eq_true rfl) dX9_run_37 (fun H locs hF hS => ?_)
      obtain ⟨u7, hu7⟩ : ∃ y : fW, y = va_up u6 (am 28) (some (mObj am (M, (0, 0, 0, R.2.2.2.1, R.2.2.2.2.1, R.2.2.2.2.2), wy, an))) := ⟨_, rfl⟩
      have hM := hM.obj (0, 0, 0, R.2.2.2.1, R.2.2.2.2.1, R.2.2.2.2.2) wy an
      have hF : fw_P D cls10 A u7 H := by rw [hu7]; exact hF
      have hM : MWd cs am (M, (0, 0, 0, R.2.2.2.1, R.2.2.2.2.1, R.2.2.2.2.2), wy, an) u7 := by rw [hu7]; exact hM
      refine lv_aload_n hx hb dX9_run_40 rfl (lv_at hl 0 rfl) ?_
      refine lv_iconst (v := (-1)) hx hb dX9_run_41 (by decide) ?_
      refine fw_put X gC_ok hF hS hM.2.1 rfl 22 (by decide) wm_501 rfl (tf := .int) (by decide +kernel) rfl rfl (Nat.le_of_ble_eq_true rfl) dX9_run_42 (fun H locs hF hS => ?_)
      obtain ⟨u8, hu8⟩ : ∃ y : fW, y = va_up u7 (am 28) (some (mObj am (M, (0, 0, 0, (-1), R.2.2.2.2.1, R.2.2.2.2.2), wy, an))) := ⟨_, rfl⟩
      have hM := hM.obj (0, 0, 0, (-1), R.2.2.2.2.1, R.2.2.2.2.2) wy an
      have hF : fw_P D cls10 A u8 H := by rw [hu8]; exact hF
      have hM : MWd cs am (M, (0, 0, 0, (-1), R.2.2.2.2.1, R.2.2.2.2.2), wy, an) u8 := by rw [hu8]; exact hM
      refine lv_aload_n hx hb dX9_run_45 rfl (lv_at hl 0 rfl) ?_
      refine lv_iconst (v := 0) hx hb dX9_run_46 (by decide) ?_
      refine fw_put X gC_ok hF hS hM.2.1 rfl 23 (by decide) wm_502 rfl (tf := .int) (by decide +kernel) rfl rfl (Nat.le_of_ble_eq_true rfl) dX9_run_47 (fun H locs hF hS => ?_)
      obtain ⟨u9, hu9⟩ : ∃ y : fW, y = va_up u8 (am 28) (some (mObj am (M, (0, 0, 0, (-1), 0, R.2.2.2.2.2), wy, an))) := ⟨_, rfl⟩
      have hM := hM.obj (0, 0, 0, (-1), 0, R.2.2.2.2.2) wy an
      have hF : fw_P D cls10 A u9 H := by rw [hu9]; exact hF
      have hM : MWd cs am (M, (0, 0, 0, (-1), 0, R.2.2.2.2.2), wy, an) u9 := by rw [hu9]; exact hM
      refine lv_aload_n hx hb dX9_run_50 rfl (lv_at hl 0 rfl) ?_
      refine lv_lconst (v := 0) hx hb dX9_run_51 (by decide) ?_
      refine fw_put X gC_ok hF hS hM.2.1 rfl 24 (by decide) wm_503 rfl (tf := .long) (by decide +kernel) rfl rfl (Nat.le_of_ble_eq_true rfl) dX9_run_52 (fun H locs hF hS => ?_)
      obtain ⟨u10, hu10⟩ : ∃ y : fW, y = va_up u9 (am 28) (some (mObj am (M, (0, 0, 0, (-1), 0, 0), wy, an))) := ⟨_, rfl⟩
      have hM := hM.obj (0, 0, 0, (-1), 0, 0) wy an
      have hF : fw_P D cls10 A u10 H := by rw [hu10]; exact hF
      have hM : MWd cs am (M, (0, 0, 0, (-1), 0, 0), wy, an) u10 := by rw [hu10]; exact hM
      refine lv_iconst (v := 1) hx hb dX9_run_55 (by decide) ?_
      refine lv_istore_n (lv' := [(3, .int 1), (0, .ref (am 28)), (1, .int (nI n)), (2, .int way)]) hx hb dX9_run_56 rfl hl (by decide) rfl (fun ls hl => ?_)
      refine lv_iconst (v := 0) hx hb dX9_run_57 (by decide) ?_
      refine lv_istore (lv' := [(4, .int 0), (3, .int 1), (0, .ref (am 28)), (1, .int (nI n)), (2, .int way)]) hx hb dX9_run_58 hl (by decide) rfl (fun ls hl => ?_)
      have hr := hRun ⟨c9_2, c19_4⟩
      rw [hin] at hr
      exact loop ⟨c9_2, c19_4⟩ n hn rfl (ix (tJo T n).1) 0 (by omega) (T0r T) M sl _ _ _ H locs ls hI rfl hM hR hr hF hS (lv_sub hl [2, 3, 4, 1, 0] rfl)
    · rw [inn_wi (n := 2) rfl] at c19_4
      refine lv_bipush (v := (-2)) hx hb dX9_run_22 (by decide) ?_
      refine fw_iret X hF hS ?_ (Nat.le_of_ble_eq_true rfl) (Nat.le_of_ble_eq_true rfl) dX9_run_24
      exact Or.inl ⟨(fun z => by rw [c19_4] at z; cases z.2), rfl, hM⟩
