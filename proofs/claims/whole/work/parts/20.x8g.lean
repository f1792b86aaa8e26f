theorem ix_le {n : Int32} (h0 : 0 ≤ n) (h1 : n ≤ 16) : ix n ≤ 16 := by
  have a1 := ix_int h0
  have a2 := Int32.le_iff_toInt_le.mp h1
  have e1 : (16 : Int32).toInt = 16 := rfl
  omega
theorem cnt_le {n : Int32} {i : Nat} (h0 : 0 ≤ n) (h1 : n ≤ 16) (hi : i ≤ 17) : n ≤ nI i ↔ ix n ≤ i := by
  have a1 := ix_int h0
  rw [Int32.le_iff_toInt_le, nI_toInt (by omega)]
  omega
theorem cnt_wi {n : Int32} {i : Nat} (h0 : 0 ≤ n) (h1 : n ≤ 16) (hi : i < ix n) : wi (nI i) n = true := by
  have h2 := ix_le h0 h1
  refine wi_t2 (nI_pos (by omega)) (fun z => ?_)
  have := (cnt_le h0 h1 (by omega)).mp z
  omega
set_option maxHeartbeats 4000000 in
set_option maxRecDepth 100000 in
theorem c_X8_run (l : Launch) (D : va_G) (cs : Nat → ClassId) (w : fW) (sz : Nat) (ad : Nat → Nat) (T : Sg) (jf : Nat → Nat → Option Nat) (hW : SW cs ad T jf w) (hI : Inv T) (j way : Int32) : gM l bs_B nw_B D cls10 (tyl cs) yX8_run cX8_run 6 (some .int) 7 166 32 96 w sz [.ref (ad 0), .int j, .int way] (fun v w' => (¬ (wi j 4 = true ∧ wi way 2 = true) ∧ v = some (.int (-2)) ∧ w' = w) ∨ ((wi j 4 = true ∧ wi way 2 = true) ∧ ∃ T', RunR (ix j) way (ix (tJo T (ix j)).1) 0 (T0r T) T' ∧ v = some (.int (tRe T').1) ∧ SW cs ad T' jf w')) := by
  refine gM.of (by decide +kernel) (Nat.le_of_ble_eq_true rfl) (fun p e s m below meth c A ls X hsz hnm hF hS hl => ?_)
  have hx := X.1
  have hb := X.2.1
  have loop : wi j 4 = true ∧ wi way 2 = true → ∀ (n9 i : Nat), i + n9 = (ix (tJo T (ix j)).1) → ∀ (U : Sg) (w9 : fW) (H : Heap) (locs : List Loc) (ls : Array Slot), Inv U → tJo U = tJo T → SW cs ad U jf w9 → (∀ T', RunR (ix j) way n9 i U T' → RunR (ix j) way (ix (tJo T (ix j)).1) 0 (T0r T) T') → fw_P D cls10 A w9 H → va_S A s.heap H locs → lv_has ls 6 [(0, .ref (ad 0)), (1, .int j), (2, .int way), (3, .ref (ad (38 + (ix j)))), (4, .int 1), (5, .int (nI i))] → W p l e ({ frames := 7, cells := 32, slots := 96, locals := 166 } : Room) s m ([.ref (ad 0), .int j, .int way] : List Value).toArray below meth c H locs (2 * i) (6 * i) (MQ below (gQ D cls10 A (fun v w' => (¬ (wi j 4 = true ∧ wi way 2 = true) ∧ v = some (.int (-2)) ∧ w' = w) ∨ ((wi j 4 = true ∧ wi way 2 = true) ∧ ∃ T', RunR (ix j) way (ix (tJo T (ix j)).1) 0 (T0r T) T' ∧ v = some (.int (tRe T').1) ∧ SW cs ad T' jf w'))) ([.ref (ad 0), .int j, .int way] : List Value).toArray s 32 96 A) (F0 m 39 ls []) := by
    intro hjw n9
    have hA9 : ix j < 4 := wi_lt hjw.1 (N := 4) (by decide)
    have hcn := (hI.2.2.2.2.1 _ hA9).1
    have hc16 := (hI.2.2.2.2.1 _ hA9).2.1
    have hN16 : (ix (tJo T (ix j)).1) ≤ 16 := ix_le hcn hc16
    induction n9 with
    | zero =>
      intro i hi U w9 H locs ls hIU hJU hW9 hK hF hS hl
      have hJj : tJo U (ix j) = tJo T (ix j) := by rw [hJU]
      have hcnU : 0 ≤ (tJo U (ix j)).1 := by rw [hJj]; exact hcn
      have hc16U : (tJo U (ix j)).1 ≤ 16 := by rw [hJj]; exact hc16
      have hixU : ix (tJo U (ix j)).1 = (ix (tJo T (ix j)).1) := by rw [hJj]
      refine lv_iload hx hb dX8_run_39 (lv_at hl 5 rfl) ?_
      refine lv_aload_n hx hb dX8_run_41 rfl (lv_at hl 3 rfl) ?_
      refine fw_get X gC_ok hF (hW9.2.2.2.2.2.2.2.2.2.2.2.2.2.2.2.2.2.1 (ix j) hA9) rfl 1 (by decide) wm_170 rfl dX8_run_42 ?_
      refine lv_icmp_ge (tgt := 91) hx hb dX8_run_45 (by decide) (fun c45_1 => ?_) (fun c45_1 => ?_)
      · refine lv_aload_n hx hb dX8_run_91 rfl (lv_at hl 0 rfl) ?_
        refine fw_get X gC_ok hF (hW9.2.1) rfl 7 (by decide) wm_183 rfl dX8_run_92 ?_
        refine fw_get X gC_ok hF (hW9.2.2.2.2.2.2.2.2.2.1) rfl 0 (by decide) wm_61 rfl dX8_run_95 ?_
        refine fw_iret X hF hS ?_ (by omega) (by omega) dX8_run_98
        exact Or.inr ⟨hjw, U, hK _ rfl, rfl, hW9⟩
      · exact absurd ((cnt_le (i := i) hcnU hc16U (by omega)).mpr (by omega)) c45_1
    | succ n9 ih =>
      intro i hi U w9 H locs ls hIU hJU hW9 hK hF hS hl
      have hJj : tJo U (ix j) = tJo T (ix j) := by rw [hJU]
      have hcnU : 0 ≤ (tJo U (ix j)).1 := by rw [hJj]; exact hcn
      have hc16U : (tJo U (ix j)).1 ≤ 16 := by rw [hJj]; exact hc16
      have hixU : ix (tJo U (ix j)).1 = (ix (tJo T (ix j)).1) := by rw [hJj]
      refine lv_iload hx hb dX8_run_39 (lv_at hl 5 rfl) ?_
      refine lv_aload_n hx hb dX8_run_41 rfl (lv_at hl 3 rfl) ?_
      refine fw_get X gC_ok hF (hW9.2.2.2.2.2.2.2.2.2.2.2.2.2.2.2.2.2.1 (ix j) hA9) rfl 1 (by decide) wm_170 rfl dX8_run_42 ?_
      refine lv_icmp_ge (tgt := 91) hx hb dX8_run_45 (by decide) (fun c45_1 => ?_) (fun c45_1 => ?_)
      · exact absurd ((cnt_le (i := i) hcnU hc16U (by omega)).mp c45_1) (by omega)
      · refine lv_iload hx hb dX8_run_48 (lv_at hl 4 rfl) ?_
        refine lv_if_eq (tgt := 91) hx hb dX8_run_50 (by decide) (fun h => absurd h (by decide)) (fun _ => ?_)
        refine lv_aload_n hx hb dX8_run_53 rfl (lv_at hl 0 rfl) ?_
        refine lv_aload_n hx hb dX8_run_54 rfl (lv_at hl 3 rfl) ?_
        refine lv_iload hx hb dX8_run_55 (lv_at hl 5 rfl) ?_
        have hwn : wi (nI i) (tJo U (ix j)).1 = true := cnt_wi hcnU hc16U (by omega)
        have hixi : ix (nI i) = i := nI_clamp (by omega)
        refine fw_callV (As := [.ref (ad (38 + (ix j))), .int (nI i)]) (rest := []) X bs_all nw_all mf_X8_isDone (c_X8_isDone l D cs _ _ ad U jf hW9 hIU (ix j) hA9 (nI i) hwn) wm_397 wm_399 wm_4 hF hS rfl (hW9.2.1) rfl rfl ((⟨⟨Nat.le_of_ble_eq_true rfl, Nat.le_of_ble_eq_true rfl⟩, (by show 2 * i + 1 ≤ 32; omega), (by show 6 * i + 3 ≤ 96; omega)⟩)) rfl hl.1 rfl (Nat.le_of_ble_eq_true rfl) dX8_run_57 (fun v u3 H locs hp hF hS hz1 hk1 hd1 => ?_)
        obtain ⟨q9, hq9, rfl, hW1⟩ := hp
        rw [hixi] at hW1 ⊢
        have hf9 := hW9.fr hq9
        have hI1 := hIU.gos (q := q9) (n := nI i) ((hIU.2.2.2.2.1 _ hA9).2.2 i (by omega))
        have hJ1 := go_jo q9 ((tJo U (ix j)).2 i) (nI i) U
        have hKr : ∀ T', (if (spGo q9 ((tJo U (ix j)).2 i) (nI i) U).1 = true then RunR (ix j) way n9 (i + 1) (spGo q9 ((tJo U (ix j)).2 i) (nI i) U).2 T' else ∃ q2, tWh (spGo q9 ((tJo U (ix j)).2 i) (nI i) U).2 q2 = none ∧ (if (spIn q2 (ix j) ((tJo U (ix j)).2 i) (spGo q9 ((tJo U (ix j)).2 i) (nI i) U).2).1 = true ∨ way = 1 then RunR (ix j) way n9 (i + 1) (spIn q2 (ix j) ((tJo U (ix j)).2 i) (spGo q9 ((tJo U (ix j)).2 i) (nI i) U).2).2 T' else T' = (spIn q2 (ix j) ((tJo U (ix j)).2 i) (spGo q9 ((tJo U (ix j)).2 i) (nI i) U).2).2)) → RunR (ix j) way (ix (tJo T (ix j)).1) 0 (T0r T) T' := fun T' z => hK T' ⟨q9, hf9, z⟩
        generalize hg1 : spGo q9 ((tJo U (ix j)).2 i) (nI i) U = g1 at hW1 hI1 hJ1 hKr ⊢
        refine W.eq (g2 := F0 m 60 ls [.int (bz g1.1)]) rfl ?_
        refine gx_ifne (tgt := 78) hx hb dX8_run_60 (by decide) (fun c60_4 => ?_) (fun c60_4 => ?_)
        · refine lv_iconst (v := 1) hx hb dX8_run_78 (by decide) ?_
          refine lv_goto (tgt := 83) hx hb dX8_run_79 (by decide) ?_
          refine lv_istore (lv' := [(4, .int 1), (0, .ref (ad 0)), (1, .int j), (2, .int way), (3, .ref (ad (38 + (ix j)))), (5, .int (nI i))]) hx hb dX8_run_83 hl (by decide) rfl (fun ls hl => ?_)
          refine lv_iinc (v := nI (i + 1)) (lv' := [(5, .int (nI (i + 1))), (4, .int 1), (0, .ref (ad 0)), (1, .int j), (2, .int way), (3, .ref (ad (38 + (ix j))))]) hx hb dX8_run_85 hl (k := 5) rfl (nI_1 i) (by decide) rfl (fun ls hl => ?_)
          refine lv_goto (tgt := 39) hx hb dX8_run_88 (by decide) ?_
          refine W.widen (k := 2 * (i + 1)) (n := 6 * (i + 1)) (by omega) (by omega) ?_
          exact ih (i + 1) (by omega) g1.2 _ H locs ls hI1 (hJ1.trans hJU) hW1 (fun T' z => hKr T' (by rw [if_pos c60_4]; exact z)) hF hS (lv_sub hl [2, 3, 4, 5, 1, 0] rfl)
        · refine lv_aload_n hx hb dX8_run_63 rfl (lv_at hl 0 rfl) ?_
          refine lv_aload_n hx hb dX8_run_64 rfl (lv_at hl 3 rfl) ?_
          refine lv_iload hx hb dX8_run_65 (lv_at hl 5 rfl) ?_
          have hJ1j : tJo g1.2 (ix j) = tJo U (ix j) := by rw [hJ1]
          have hwn1 : wi (nI i) (tJo g1.2 (ix j)).1 = true := by rw [hJ1j]; exact hwn
          refine fw_callV (As := [.ref (ad (38 + (ix j))), .int (nI i)]) (rest := []) X bs_all nw_all mf_X8_isDoneInStead (c_X8_isDoneInStead l D cs _ _ ad g1.2 jf hW1 hI1 (ix j) hA9 (nI i) hwn1) wm_414 wm_416 wm_5 hF hS rfl (hW1.2.1) rfl rfl ((⟨⟨Nat.le_of_ble_eq_true rfl, Nat.le_of_ble_eq_true rfl⟩, (by show 2 * i + 1 + 1 ≤ 32; omega), (by show 6 * i + 3 + 3 ≤ 96; omega)⟩)) rfl hl.1 rfl (Nat.le_of_ble_eq_true rfl) dX8_run_67 (fun v u5 H locs hp hF hS hz1 hk1 hd1 => ?_)
          obtain ⟨q8, hq8, rfl, hW2⟩ := hp
          rw [hixi, hJ1j] at hW2 ⊢
          have hf8 := hW1.fr hq8
          have hI2 := hI1.ins (q := q8) (x := (tJo U (ix j)).2 i) hA9
          have hJ2 := in_jo q8 (ix j) ((tJo U (ix j)).2 i) g1.2
          have hKs : ∀ T', (if (spIn q8 (ix j) ((tJo U (ix j)).2 i) g1.2).1 = true ∨ way = 1 then RunR (ix j) way n9 (i + 1) (spIn q8 (ix j) ((tJo U (ix j)).2 i) g1.2).2 T' else T' = (spIn q8 (ix j) ((tJo U (ix j)).2 i) g1.2).2) → RunR (ix j) way (ix (tJo T (ix j)).1) 0 (T0r T) T' := fun T' z => hKr T' (by rw [if_neg (by rw [c60_4]; decide)]; exact ⟨q8, hf8, z⟩)
          generalize hg2 : spIn q8 (ix j) ((tJo U (ix j)).2 i) g1.2 = g2 at hW2 hI2 hJ2 hKs ⊢
          refine W.eq (g2 := F0 m 70 ls [.int (bz g2.1)]) rfl ?_
          refine gx_ifne (tgt := 78) hx hb dX8_run_70 (by decide) (fun c70_6 => ?_) (fun c70_6 => ?_)
          · refine lv_iconst (v := 1) hx hb dX8_run_78 (by decide) ?_
            refine lv_goto (tgt := 83) hx hb dX8_run_79 (by decide) ?_
            refine lv_istore (lv' := [(4, .int 1), (0, .ref (ad 0)), (1, .int j), (2, .int way), (3, .ref (ad (38 + (ix j)))), (5, .int (nI i))]) hx hb dX8_run_83 hl (by decide) rfl (fun ls hl => ?_)
            refine lv_iinc (v := nI (i + 1)) (lv' := [(5, .int (nI (i + 1))), (4, .int 1), (0, .ref (ad 0)), (1, .int j), (2, .int way), (3, .ref (ad (38 + (ix j))))]) hx hb dX8_run_85 hl (k := 5) rfl (nI_1 i) (by decide) rfl (fun ls hl => ?_)
            refine lv_goto (tgt := 39) hx hb dX8_run_88 (by decide) ?_
            refine W.widen (k := 2 * (i + 1)) (n := 6 * (i + 1)) (by omega) (by omega) ?_
            exact ih (i + 1) (by omega) g2.2 _ H locs ls hI2 (hJ2.trans (hJ1.trans hJU)) hW2 (fun T' z => hKs T' (by rw [if_pos (Or.inl c70_6)]; exact z)) hF hS (lv_sub hl [2, 3, 4, 5, 1, 0] rfl)
          · refine lv_iload_n hx hb dX8_run_73 rfl (lv_at hl 2 rfl) ?_
            refine lv_iconst (v := 1) hx hb dX8_run_74 (by decide) ?_
            refine lv_icmp_ne (tgt := 82) hx hb dX8_run_75 (by decide) (fun c75_7 => ?_) (fun c75_7 => ?_)
            · refine lv_iconst (v := 0) hx hb dX8_run_82 (by decide) ?_
              refine lv_istore (lv' := [(4, .int 0), (0, .ref (ad 0)), (1, .int j), (2, .int way), (3, .ref (ad (38 + (ix j)))), (5, .int (nI i))]) hx hb dX8_run_83 hl (by decide) rfl (fun ls hl => ?_)
              refine lv_iinc (v := nI (i + 1)) (lv' := [(5, .int (nI (i + 1))), (4, .int 0), (0, .ref (ad 0)), (1, .int j), (2, .int way), (3, .ref (ad (38 + (ix j))))]) hx hb dX8_run_85 hl (k := 5) rfl (nI_1 i) (by decide) rfl (fun ls hl => ?_)
              refine lv_goto (tgt := 39) hx hb dX8_run_88 (by decide) ?_
              refine lv_iload hx hb dX8_run_39 (lv_at hl 0 rfl) ?_
              refine lv_aload_n hx hb dX8_run_41 rfl (lv_at hl 5 rfl) ?_
              refine fw_get X gC_ok hF (hW2.2.2.2.2.2.2.2.2.2.2.2.2.2.2.2.2.2.1 (ix j) hA9) rfl 1 (by decide) wm_170 rfl dX8_run_42 ?_
              refine lv_icmp_ge (tgt := 91) hx hb dX8_run_45 (by decide) (fun c45_8 => ?_) (fun c45_8 => ?_)
              · refine lv_aload_n hx hb dX8_run_91 rfl (lv_at hl 2 rfl) ?_
                refine fw_get X gC_ok hF (hW2.2.1) rfl 7 (by decide) wm_183 rfl dX8_run_92 ?_
                refine fw_get X gC_ok hF (hW2.2.2.2.2.2.2.2.2.2.1) rfl 0 (by decide) wm_61 rfl dX8_run_95 ?_
                refine fw_iret X hF hS ?_ (by omega) (by omega) dX8_run_98
                exact Or.inr ⟨hjw, g2.2, hKs _ (by rw [if_neg (fun z => z.elim (fun z => by rw [c70_6] at z; cases z) c75_7)]), rfl, hW2⟩
              · refine lv_iload hx hb dX8_run_48 (lv_at hl 1 rfl) ?_
                refine lv_if_eq (tgt := 91) hx hb dX8_run_50 (by decide) (fun _ => ?_) (fun h => absurd rfl h)
                refine lv_aload_n hx hb dX8_run_91 rfl (lv_at hl 2 rfl) ?_
                refine fw_get X gC_ok hF (hW2.2.1) rfl 7 (by decide) wm_183 rfl dX8_run_92 ?_
                refine fw_get X gC_ok hF (hW2.2.2.2.2.2.2.2.2.2.1) rfl 0 (by decide) wm_61 rfl dX8_run_95 ?_
                refine fw_iret X hF hS ?_ (by omega) (by omega) dX8_run_98
                exact Or.inr ⟨hjw, g2.2, hKs _ (by rw [if_neg (fun z => z.elim (fun z => by rw [c70_6] at z; cases z) c75_7)]), rfl, hW2⟩
            · refine lv_iconst (v := 1) hx hb dX8_run_78 (by decide) ?_
              refine lv_goto (tgt := 83) hx hb dX8_run_79 (by decide) ?_
              refine lv_istore (lv' := [(4, .int 1), (0, .ref (ad 0)), (1, .int j), (2, .int way), (3, .ref (ad (38 + (ix j)))), (5, .int (nI i))]) hx hb dX8_run_83 hl (by decide) rfl (fun ls hl => ?_)
              refine lv_iinc (v := nI (i + 1)) (lv' := [(5, .int (nI (i + 1))), (4, .int 1), (0, .ref (ad 0)), (1, .int j), (2, .int way), (3, .ref (ad (38 + (ix j))))]) hx hb dX8_run_85 hl (k := 5) rfl (nI_1 i) (by decide) rfl (fun ls hl => ?_)
              refine lv_goto (tgt := 39) hx hb dX8_run_88 (by decide) ?_
              refine W.widen (k := 2 * (i + 1)) (n := 6 * (i + 1)) (by omega) (by omega) ?_
              exact ih (i + 1) (by omega) g2.2 _ H locs ls hI2 (hJ2.trans (hJ1.trans hJU)) hW2 (fun T' z => hKs T' (by rw [if_pos (Or.inr c75_7)]; exact z)) hF hS (lv_sub hl [2, 3, 4, 5, 1, 0] rfl)
  have hl : lv_has ls 6 [(0, .ref (ad 0)), (1, .int j), (2, .int way)] := hl
  refine lv_iload_n hx hb dX8_run_0 rfl (lv_at hl 1 rfl) ?_
  refine lv_iconst (v := 4) hx hb dX8_run_1 (by decide) ?_
  refine fw_callS (As := [.int j, .int 4]) (rest := []) X bs_all nw_all mf_X8_isWithin (c_X8_isWithin l D cs _ _ j 4) wm_208 wm_209 hF hS rfl ((⟨⟨Nat.le_of_ble_eq_true rfl, Nat.le_of_ble_eq_true rfl⟩, Nat.le_of_ble_eq_true rfl, Nat.le_of_ble_eq_true rfl⟩)) rfl hl.1 rfl (Nat.le_of_ble_eq_true rfl) dX8_run_2 (fun v u1 H locs hp hF hS hz1 hk1 hd1 => ?_)
  obtain ⟨rfl, hw1⟩ := hp
  rw [hw1] at hF
  refine W.eq (g2 := F0 m 5 ls [.int (bz (wi j 4))]) rfl ?_
  refine gx_ifeq (tgt := 16) hx hb dX8_run_5 (by decide) (fun c5_2 => ?_) (fun c5_2 => ?_)
  · refine lv_bipush (v := (-2)) hx hb dX8_run_16 (by decide) ?_
    refine fw_iret X hF hS ?_ (Nat.le_of_ble_eq_true rfl) (Nat.le_of_ble_eq_true rfl) dX8_run_18
    exact Or.inl ⟨(fun z => by rw [c5_2] at z; cases z.1), rfl, rfl⟩
  · have hA9 : ix j < 4 := wi_lt c5_2 (N := 4) (by decide)
    refine lv_iload_n hx hb dX8_run_8 rfl (lv_at hl 2 rfl) ?_
    refine lv_iconst (v := 2) hx hb dX8_run_9 (by decide) ?_
    refine fw_callS (As := [.int way, .int 2]) (rest := []) X bs_all nw_all mf_X8_isWithin (c_X8_isWithin l D cs _ _ way 2) wm_208 wm_209 hF hS rfl ((⟨⟨Nat.le_of_ble_eq_true rfl, Nat.le_of_ble_eq_true rfl⟩, Nat.le_of_ble_eq_true rfl, Nat.le_of_ble_eq_true rfl⟩)) rfl hl.1 rfl (Nat.le_of_ble_eq_true rfl) dX8_run_10 (fun v u3 H locs hp hF hS hz1 hk1 hd1 => ?_)
    obtain ⟨rfl, hw1⟩ := hp
    rw [hw1] at hF
    refine W.eq (g2 := F0 m 13 ls [.int (bz (wi way 2))]) rfl ?_
    refine gx_ifne (tgt := 19) hx hb dX8_run_13 (by decide) (fun c13_4 => ?_) (fun c13_4 => ?_)
    · refine lv_aload_n hx hb dX8_run_19 rfl (lv_at hl 0 rfl) ?_
      refine fw_get X gC_ok hF (hW.2.1) rfl 7 (by decide) wm_183 rfl dX8_run_20 ?_
      refine fw_callV (As := []) (rest := []) X bs_all nw_all mf_X4_restart (c_X4_restart l D cs _ _ (ad 8) ((tRe T).1) ((tRe T).2.1) ((tRe T).2.2.1) ((tRe T).2.2.2.1) ((tRe T).2.2.2.2.1) ((tRe T).2.2.2.2.2) (hW.2.2.2.2.2.2.2.2.2.1)) wm_393 wm_394 wm_395 hF hS rfl (hW.2.2.2.2.2.2.2.2.2.1) rfl rfl ((⟨⟨Nat.le_of_ble_eq_true rfl, Nat.le_of_ble_eq_true rfl⟩, Nat.le_of_ble_eq_true rfl, Nat.le_of_ble_eq_true rfl⟩)) rfl hl.1 rfl (Nat.le_of_ble_eq_true rfl) dX8_run_23 (fun v u5 H locs hp hF hS hz1 hk1 hd1 => ?_)
      obtain ⟨rfl, hw1⟩ := hp
      rw [hw1] at hF
      refine W.eq (g2 := F0 m 26 ls []) rfl ?_
      refine lv_aload_n hx hb dX8_run_26 rfl (lv_at hl 0 rfl) ?_
      refine fw_get X gC_ok hF ((va_up_ne _ _ (hW.1.ne (by omega) (by omega) (by omega))).trans (hW.2.1)) rfl 4 (by decide) wm_180 rfl dX8_run_27 ?_
      refine lv_iload_n hx hb dX8_run_30 rfl (lv_at hl 1 rfl) ?_
      refine fw_aldq X hF ((va_up_ne _ _ (hW.1.ne (by omega) (by omega) (by omega))).trans (hW.2.2.2.2.2.2.1)) 6 rfl (wi_in c5_2 (N := 4) (by decide)) (v := some (ad (38 + (ix j)))) rfl dX8_run_31 ?_
      refine W.eq (g2 := F0 m 32 ls [.ref (ad (38 + (ix j)))]) rfl ?_
      refine lv_astore_n (lv' := [(3, .ref (ad (38 + (ix j)))), (0, .ref (ad 0)), (1, .int j), (2, .int way)]) hx hb dX8_run_32 rfl hl (by decide) rfl (fun ls hl => ?_)
      refine lv_iconst (v := 1) hx hb dX8_run_33 (by decide) ?_
      refine lv_istore (lv' := [(4, .int 1), (3, .ref (ad (38 + (ix j)))), (0, .ref (ad 0)), (1, .int j), (2, .int way)]) hx hb dX8_run_34 hl (by decide) rfl (fun ls hl => ?_)
      refine lv_iconst (v := 0) hx hb dX8_run_36 (by decide) ?_
      refine lv_istore (lv' := [(5, .int 0), (4, .int 1), (3, .ref (ad (38 + (ix j)))), (0, .ref (ad 0)), (1, .int j), (2, .int way)]) hx hb dX8_run_37 hl (by decide) rfl (fun ls hl => ?_)
      refine loop ⟨c5_2, c13_4⟩ (ix (tJo T (ix j)).1) 0 (by omega) (T0r T) _ H locs ls hI rfl (hW.re _) (fun T' z => z) hF hS (lv_sub hl [3, 4, 5, 2, 1, 0] rfl)
    · refine lv_bipush (v := (-2)) hx hb dX8_run_16 (by decide) ?_
      refine fw_iret X hF hS ?_ (Nat.le_of_ble_eq_true rfl) (Nat.le_of_ble_eq_true rfl) dX8_run_18
      exact Or.inl ⟨(fun z => by rw [c13_4] at z; cases z.2), rfl, rfl⟩
