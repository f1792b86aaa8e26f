theorem gx_lk01 (x : Int32) : x = 0 ∨ x = 1 ∨ (¬ x = 0 ∧ ¬ x = 1) := by
  by_cases h : x = 0
  · exact Or.inl h
  · by_cases h2 : x = 1
    · exact Or.inr (Or.inl h2)
    · exact Or.inr (Or.inr ⟨h, h2⟩)
theorem gx_sw7_13 (x : Int32) : x = 7 ∨ x = 8 ∨ x = 9 ∨ x = 10 ∨ x = 11 ∨ x = 12 ∨ x = 13 ∨ (x.toInt < 7 ∨ 13 < x.toInt) := by
  rw [gx_i x 7 (a := 7) rfl, gx_i x 8 (a := 8) rfl, gx_i x 9 (a := 9) rfl, gx_i x 10 (a := 10) rfl, gx_i x 11 (a := 11) rfl, gx_i x 12 (a := 12) rfl, gx_i x 13 (a := 13) rfl]; omega
theorem wi17 {k : Int32} (h1 : ¬ k < 0) (h2 : ¬ 16 < k) : wi k 17 = true := by
  refine wi_t2 h1 (fun q => h2 ?_)
  have := Int32.le_iff_toInt_le.mp q
  have h3 : (17 : Int32).toInt = 17 := rfl
  have h4 : (16 : Int32).toInt = 16 := rfl
  exact Int32.lt_iff_toInt_lt.mpr (by omega)
theorem wi17f {k : Int32} (h2 : 16 < k) : wi k 17 = false := by
  refine wi_f2 ?_
  have := Int32.lt_iff_toInt_lt.mp h2
  have h3 : (17 : Int32).toInt = 17 := rfl
  have h4 : (16 : Int32).toInt = 16 := rfl
  exact Int32.le_iff_toInt_le.mpr (by omega)
/-! what holds of every state that comes -/
def lenI (n : Int32) : Prop := -1 ≤ n ∧ n ≤ 12
def stI (T : Sg) (x : aS) : Prop := (∀ q, x.2.2.1 = some q → (tWh T q).isSome = true) ∧ (∀ q, x.2.2.2.1 = some q → (tWh T q).isSome = true) ∧ (x.1 = false → x = (false, 0, none, none, 0, 0)) ∧ (x.2.2.2.2.1 = 0 ∨ x.2.2.2.2.1 = 1 ∨ x.2.2.2.2.1 = 2) ∧ (¬ x.2.2.2.2.1 = 2 → x.2.2.2.2.2 = 0)
def spI (x : aSp) : Prop := okS x.1 x.2.1 x.2.2.1 x.2.2.2.1 = true ∧ (x.2.2.2.2 = -1 ∨ wi x.2.2.2.2 16 = true)
def exI (e : Int32) : Prop := e = 1 ∨ e = 6 ∨ e = 7
def Inv (T : Sg) : Prop :=
  (∀ i, i < 4 → stI T (tSt T i)) ∧
  (∀ i, i < 4 → lenI (tBa T i).1) ∧
  (∀ i, i < 4 → lenI (tRa T i).1 ∧ ∀ j q, j < 12 → (tRa T i).2.2 j = some q → (tWh T q).isSome = true) ∧
  (∀ i, i < 4 → lenI (tGr T i).1 ∧ 0 ≤ (tGr T i).2.1 ∧ (tGr T i).2.1 ≤ 12) ∧
  (∀ j, j < 4 → 0 ≤ (tJo T j).1 ∧ (tJo T j).1 ≤ 16 ∧ ∀ k, k < ix (tJo T j).1 → spI ((tJo T j).2 k)) ∧
  (∀ i, i < 4 → exI (tEx T i))
theorem SW.whl {cs : Nat → ClassId} {ad : Nat → Nat} {T : Sg} {jf : Nat → Nat → Option Nat} {w : fW} (h : SW cs ad T jf w) {q : Nat} (hq : (tWh T q).isSome = true) : w q = some (cWh (W9 T q)) := by
  cases hx : tWh T q with
  | none => rw [hx] at hq; cases hq
  | some x =>
    have e : W9 T q = x := by show (tWh T q).getD _ = x; rw [hx]; rfl
    rw [e]
    exact h.2.2.2.2.2.2.2.2.2.2.2.2.2.2.2.2.2.2.2.1 q x hx
theorem SW.fr {cs : Nat → ClassId} {ad : Nat → Nat} {T : Sg} {jf : Nat → Nat → Option Nat} {w : fW} (h : SW cs ad T jf w) {q : Nat} (hq : w q = none) : tWh T q = none := by
  cases hx : tWh T q with
  | none => rfl
  | some x => have := h.2.2.2.2.2.2.2.2.2.2.2.2.2.2.2.2.2.2.2.1 q x hx; rw [hq] at this; cases this
theorem Inv.sd {T : Sg} (h : Inv T) {i q : Nat} (hi : i < 4) {b : Int32} (hq : sdw b (tSt T i).2.2.1 (tSt T i).2.2.2.1 = some q) : (tWh T q).isSome = true := by
  unfold sdw at hq
  split at hq
  · exact (h.1 i hi).1 q hq
  · exact (h.1 i hi).2.1 q hq
theorem ok_k {k a b d : Int32} (h : okS k a b d = true) : wi k 17 = true := by
  unfold okS at h
  exact (Bool.and_eq_true_iff.mp h).1
theorem ok_a {k a b d : Int32} (h : okS k a b d = true) : wi a 4 = true := by
  unfold okS at h
  exact (Bool.and_eq_true_iff.mp (Bool.and_eq_true_iff.mp h).2).1
theorem ok_7 {a b d : Int32} (h : okS 7 a b d = true) : b ≤ 12 := by
  simpa [okS] using (Bool.and_eq_true_iff.mp (Bool.and_eq_true_iff.mp h).2).2
theorem ok_8 {a b d : Int32} (h : okS 8 a b d = true) : b ≤ 12 := by
  simpa [okS] using (Bool.and_eq_true_iff.mp (Bool.and_eq_true_iff.mp h).2).2
theorem ok_9 {a b d : Int32} (h : okS 9 a b d = true) : b ≤ 12 ∧ d ≤ 12 := by
  simpa [okS] using (Bool.and_eq_true_iff.mp (Bool.and_eq_true_iff.mp h).2).2
theorem ok_13 {a b d : Int32} (h : okS 13 a b d = true) : wi d 4 = true := by
  simpa [okS] using (Bool.and_eq_true_iff.mp (Bool.and_eq_true_iff.mp h).2).2
theorem wi_kl {k : Int32} (h : wi k 17 = true) (z : k.toInt < 0 ∨ 16 < k.toInt) : False := by
  have h1 := Int32.le_iff_toInt_le.mp (wi_1 h)
  have h2 := Int32.lt_iff_toInt_lt.mp (wi_2 h)
  have h3 : (0 : Int32).toInt = 0 := rfl
  have h4 : (17 : Int32).toInt = 17 := rfl
  omega
theorem oc_len (n : Int32) : oc (spLen n) = if n = -1 then fl 1 else n.toInt64 := by
  unfold spLen
  by_cases h : n = -1
  · rw [if_pos h, if_pos h]; rfl
  · rw [if_neg h, if_neg h]; rfl
theorem uSt (T : Sg) (i : Nat) : setSt T i (tSt T i) = T := by
  unfold setSt
  have : va_up (tSt T) i (tSt T i) = tSt T := by funext j; by_cases h : j = i <;> simp [va_up, h]
  rw [this]
theorem uu {α : Type} (f : Nat → α) (k : Nat) (v u : α) : va_up (va_up f k v) k u = va_up f k u := bx_uu f k v u
theorem uBa (T : Sg) (i : Nat) (x y : aBa) : setBa (setBa T i x) i y = setBa T i y := congrArg (fun z : Nat → aBa => ((tSt T, z, tRa T, tGr T, tJo T, tEx T, tTa T, tRe T, tWh T) : Sg)) (uu _ _ _ _)
theorem uRa (T : Sg) (i : Nat) (x y : aRa) : setRa (setRa T i x) i y = setRa T i y := congrArg (fun z : Nat → aRa => ((tSt T, tBa T, z, tGr T, tJo T, tEx T, tTa T, tRe T, tWh T) : Sg)) (uu _ _ _ _)
theorem uGr (T : Sg) (i : Nat) (x y : aGr) : setGr (setGr T i x) i y = setGr T i y := congrArg (fun z : Nat → aGr => ((tSt T, tBa T, tRa T, z, tJo T, tEx T, tTa T, tRe T, tWh T) : Sg)) (uu _ _ _ _)
theorem noS {T : Sg} {r : aRa} {x : aS} : noStore T r x = true ↔ (r.2.1 = true ∧ ∃ q, x.2.2.1 = some q ∧ (W9 T q).2.1 = false) := by
  unfold noStore
  cases hx : x.2.2.1 with
  | none => simp
  | some q => simp
set_option maxHeartbeats 4000000 in
set_option maxRecDepth 100000 in
theorem c_X8_isStep (l : Launch) (D : va_G) (cs : Nat → ClassId) (w : fW) (sz : Nat) (k a b d : Int32) : gM l bs_B nw_B D cls10 (tyl cs) yX8_isStep cX8_isStep 4 (some .boolean) 1 21 0 0 w sz [.int k, .int a, .int b, .int d] (fun v w' => v = some (.int (bz (okS k a b d))) ∧ w' = w) := by
  refine gM.of (by decide +kernel) (Nat.le_of_ble_eq_true rfl) (fun p e s m below meth c A ls X hsz hnm hF hS hl => ?_)
  have hx := X.1
  have hb := X.2.1
  have hl : lv_has ls 4 [(0, .int k), (1, .int a), (2, .int b), (3, .int d)] := hl
  refine lv_iload_n hx hb dX8_isStep_0 rfl (lv_at hl 1 rfl) ?_
  refine lv_iconst (v := 4) hx hb dX8_isStep_1 (by decide) ?_
  refine fw_callS (As := [.int a, .int 4]) (rest := []) X bs_all nw_all mf_X8_isWithin (c_X8_isWithin l D cs _ _ a 4) wm_208 wm_209 hF hS rfl ((⟨⟨Nat.le_of_ble_eq_true rfl, Nat.le_of_ble_eq_true rfl⟩, Nat.le_of_ble_eq_true rfl, Nat.le_of_ble_eq_true rfl⟩)) rfl hl.1 rfl (Nat.le_of_ble_eq_true rfl) dX8_isStep_2 (fun v u1 H locs hp hF hS hz1 hk1 hd1 => ?_)
  obtain ⟨rfl, hw1⟩ := hp
  rw [hw1] at hF
  refine W.eq (g2 := F0 m 5 ls [.int (bz (wi a 4))]) rfl ?_
  refine gx_ifne (tgt := 10) hx hb dX8_isStep_5 (by decide) (fun c5_2 => ?_) (fun c5_2 => ?_)
  · refine lv_iload_n hx hb dX8_isStep_10 rfl (lv_at hl 0 rfl) ?_
    rcases gx_sw7_13 k with sw3 | sw3 | sw3 | sw3 | sw3 | sw3 | sw3 | sw3
    · refine lv_tableIn (off := 41) (tgt := 52) hx hb dX8_isStep_11 (by rw [sw3]; decide) (by rw [sw3]; decide) (by rw [sw3]; rfl) (by decide) ?_
      refine lv_iload_n hx hb dX8_isStep_52 rfl (lv_at hl 2 rfl) ?_
      refine lv_bipush (v := 12) hx hb dX8_isStep_53 (by decide) ?_
      refine lv_icmp_gt (tgt := 62) hx hb dX8_isStep_55 (by decide) (fun c55_4 => ?_) (fun c55_4 => ?_)
      · refine lv_iconst (v := 0) hx hb dX8_isStep_62 (by decide) ?_
        refine fw_zret X hF hS rfl ?_ (Nat.le_of_ble_eq_true rfl) (Nat.le_of_ble_eq_true rfl) dX8_isStep_63
        refine ⟨congrArg (fun z => some (Value.int (bz z))) (show false = okS k a b d from ?_), rfl⟩
        have gc55_4 := i_nle.mpr c55_4
        simp [okS, c5_2, sw3, gc55_4]
        all_goals first | decide | (intro _; decide)
      · refine lv_iconst (v := 1) hx hb dX8_isStep_58 (by decide) ?_
        refine lv_goto (tgt := 63) hx hb dX8_isStep_59 (by decide) ?_
        refine fw_zret X hF hS rfl ?_ (Nat.le_of_ble_eq_true rfl) (Nat.le_of_ble_eq_true rfl) dX8_isStep_63
        refine ⟨congrArg (fun z => some (Value.int (bz z))) (show true = okS k a b d from ?_), rfl⟩
        have gc55_4 := i_nlt.mp c55_4
        simp [okS, c5_2, sw3, gc55_4]
        all_goals first | decide | (intro _; decide)
    · refine lv_tableIn (off := 41) (tgt := 52) hx hb dX8_isStep_11 (by rw [sw3]; decide) (by rw [sw3]; decide) (by rw [sw3]; rfl) (by decide) ?_
      refine lv_iload_n hx hb dX8_isStep_52 rfl (lv_at hl 2 rfl) ?_
      refine lv_bipush (v := 12) hx hb dX8_isStep_53 (by decide) ?_
      refine lv_icmp_gt (tgt := 62) hx hb dX8_isStep_55 (by decide) (fun c55_5 => ?_) (fun c55_5 => ?_)
      · refine lv_iconst (v := 0) hx hb dX8_isStep_62 (by decide) ?_
        refine fw_zret X hF hS rfl ?_ (Nat.le_of_ble_eq_true rfl) (Nat.le_of_ble_eq_true rfl) dX8_isStep_63
        refine ⟨congrArg (fun z => some (Value.int (bz z))) (show false = okS k a b d from ?_), rfl⟩
        have gc55_5 := i_nle.mpr c55_5
        simp [okS, c5_2, sw3, gc55_5]
        all_goals first | decide | (intro _; decide)
      · refine lv_iconst (v := 1) hx hb dX8_isStep_58 (by decide) ?_
        refine lv_goto (tgt := 63) hx hb dX8_isStep_59 (by decide) ?_
        refine fw_zret X hF hS rfl ?_ (Nat.le_of_ble_eq_true rfl) (Nat.le_of_ble_eq_true rfl) dX8_isStep_63
        refine ⟨congrArg (fun z => some (Value.int (bz z))) (show true = okS k a b d from ?_), rfl⟩
        have gc55_5 := i_nlt.mp c55_5
        simp [okS, c5_2, sw3, gc55_5]
        all_goals first | decide | (intro _; decide)
    · refine lv_tableIn (off := 53) (tgt := 64) hx hb dX8_isStep_11 (by rw [sw3]; decide) (by rw [sw3]; decide) (by rw [sw3]; rfl) (by decide) ?_
      refine lv_iload_n hx hb dX8_isStep_64 rfl (lv_at hl 2 rfl) ?_
      refine lv_bipush (v := 12) hx hb dX8_isStep_65 (by decide) ?_
      refine lv_icmp_gt (tgt := 80) hx hb dX8_isStep_67 (by decide) (fun c67_6 => ?_) (fun c67_6 => ?_)
      · refine lv_iconst (v := 0) hx hb dX8_isStep_80 (by decide) ?_
        refine fw_zret X hF hS rfl ?_ (Nat.le_of_ble_eq_true rfl) (Nat.le_of_ble_eq_true rfl) dX8_isStep_81
        refine ⟨congrArg (fun z => some (Value.int (bz z))) (show false = okS k a b d from ?_), rfl⟩
        have gc67_6 := i_nle.mpr c67_6
        simp [okS, c5_2, sw3, gc67_6]
        all_goals first | decide | (intro _; decide)
      · refine lv_iload_n hx hb dX8_isStep_70 rfl (lv_at hl 3 rfl) ?_
        refine lv_bipush (v := 12) hx hb dX8_isStep_71 (by decide) ?_
        refine lv_icmp_gt (tgt := 80) hx hb dX8_isStep_73 (by decide) (fun c73_7 => ?_) (fun c73_7 => ?_)
        · refine lv_iconst (v := 0) hx hb dX8_isStep_80 (by decide) ?_
          refine fw_zret X hF hS rfl ?_ (Nat.le_of_ble_eq_true rfl) (Nat.le_of_ble_eq_true rfl) dX8_isStep_81
          refine ⟨congrArg (fun z => some (Value.int (bz z))) (show false = okS k a b d from ?_), rfl⟩
          have gc67_6 := i_nlt.mp c67_6
          have gc73_7 := i_nle.mpr c73_7
          simp [okS, c5_2, sw3, gc67_6, gc73_7]
          all_goals first | decide | (intro _; decide)
        · refine lv_iconst (v := 1) hx hb dX8_isStep_76 (by decide) ?_
          refine lv_goto (tgt := 81) hx hb dX8_isStep_77 (by decide) ?_
          refine fw_zret X hF hS rfl ?_ (Nat.le_of_ble_eq_true rfl) (Nat.le_of_ble_eq_true rfl) dX8_isStep_81
          refine ⟨congrArg (fun z => some (Value.int (bz z))) (show true = okS k a b d from ?_), rfl⟩
          have gc67_6 := i_nlt.mp c67_6
          have gc73_7 := i_nlt.mp c73_7
          simp [okS, c5_2, sw3, gc67_6, gc73_7]
          all_goals first | decide | (intro _; decide)
    · refine lv_tableIn (off := 77) (tgt := 88) hx hb dX8_isStep_11 (by rw [sw3]; decide) (by rw [sw3]; decide) (by rw [sw3]; rfl) (by decide) ?_
      refine lv_iload_n hx hb dX8_isStep_88 rfl (lv_at hl 0 rfl) ?_
      refine lv_if_lt (tgt := 102) hx hb dX8_isStep_89 (by decide) (fun c89_8 => ?_) (fun c89_8 => ?_)
      · refine lv_iconst (v := 0) hx hb dX8_isStep_102 (by decide) ?_
        refine fw_zret X hF hS rfl ?_ (Nat.le_of_ble_eq_true rfl) (Nat.le_of_ble_eq_true rfl) dX8_isStep_103
        refine ⟨congrArg (fun z => some (Value.int (bz z))) (show false = okS k a b d from ?_), rfl⟩
        have hk := wi_f1 (n := 17) c89_8
        rw [sw3] at hk
        simp [okS, c5_2, sw3, hk]
      · refine lv_iload_n hx hb dX8_isStep_92 rfl (lv_at hl 0 rfl) ?_
        refine lv_bipush (v := 16) hx hb dX8_isStep_93 (by decide) ?_
        refine lv_icmp_gt (tgt := 102) hx hb dX8_isStep_95 (by decide) (fun c95_9 => ?_) (fun c95_9 => ?_)
        · refine lv_iconst (v := 0) hx hb dX8_isStep_102 (by decide) ?_
          refine fw_zret X hF hS rfl ?_ (Nat.le_of_ble_eq_true rfl) (Nat.le_of_ble_eq_true rfl) dX8_isStep_103
          refine ⟨congrArg (fun z => some (Value.int (bz z))) (show false = okS k a b d from ?_), rfl⟩
          have hk := wi17f c95_9
          rw [sw3] at hk
          simp [okS, c5_2, sw3, hk]
        · refine lv_iconst (v := 1) hx hb dX8_isStep_98 (by decide) ?_
          refine lv_goto (tgt := 103) hx hb dX8_isStep_99 (by decide) ?_
          refine fw_zret X hF hS rfl ?_ (Nat.le_of_ble_eq_true rfl) (Nat.le_of_ble_eq_true rfl) dX8_isStep_103
          refine ⟨congrArg (fun z => some (Value.int (bz z))) (show true = okS k a b d from ?_), rfl⟩
          have hk := wi17 c89_8 c95_9
          rw [sw3] at hk
          simp [okS, c5_2, sw3, hk]
    · refine lv_tableIn (off := 77) (tgt := 88) hx hb dX8_isStep_11 (by rw [sw3]; decide) (by rw [sw3]; decide) (by rw [sw3]; rfl) (by decide) ?_
      refine lv_iload_n hx hb dX8_isStep_88 rfl (lv_at hl 0 rfl) ?_
      refine lv_if_lt (tgt := 102) hx hb dX8_isStep_89 (by decide) (fun c89_10 => ?_) (fun c89_10 => ?_)
      · refine lv_iconst (v := 0) hx hb dX8_isStep_102 (by decide) ?_
        refine fw_zret X hF hS rfl ?_ (Nat.le_of_ble_eq_true rfl) (Nat.le_of_ble_eq_true rfl) dX8_isStep_103
        refine ⟨congrArg (fun z => some (Value.int (bz z))) (show false = okS k a b d from ?_), rfl⟩
        have hk := wi_f1 (n := 17) c89_10
        rw [sw3] at hk
        simp [okS, c5_2, sw3, hk]
      · refine lv_iload_n hx hb dX8_isStep_92 rfl (lv_at hl 0 rfl) ?_
        refine lv_bipush (v := 16) hx hb dX8_isStep_93 (by decide) ?_
        refine lv_icmp_gt (tgt := 102) hx hb dX8_isStep_95 (by decide) (fun c95_11 => ?_) (fun c95_11 => ?_)
        · refine lv_iconst (v := 0) hx hb dX8_isStep_102 (by decide) ?_
          refine fw_zret X hF hS rfl ?_ (Nat.le_of_ble_eq_true rfl) (Nat.le_of_ble_eq_true rfl) dX8_isStep_103
          refine ⟨congrArg (fun z => some (Value.int (bz z))) (show false = okS k a b d from ?_), rfl⟩
          have hk := wi17f c95_11
          rw [sw3] at hk
          simp [okS, c5_2, sw3, hk]
        · refine lv_iconst (v := 1) hx hb dX8_isStep_98 (by decide) ?_
          refine lv_goto (tgt := 103) hx hb dX8_isStep_99 (by decide) ?_
          refine fw_zret X hF hS rfl ?_ (Nat.le_of_ble_eq_true rfl) (Nat.le_of_ble_eq_true rfl) dX8_isStep_103
          refine ⟨congrArg (fun z => some (Value.int (bz z))) (show true = okS k a b d from ?_), rfl⟩
          have hk := wi17 c89_10 c95_11
          rw [sw3] at hk
          simp [okS, c5_2, sw3, hk]
    · refine lv_tableIn (off := 77) (tgt := 88) hx hb dX8_isStep_11 (by rw [sw3]; decide) (by rw [sw3]; decide) (by rw [sw3]; rfl) (by decide) ?_
      refine lv_iload_n hx hb dX8_isStep_88 rfl (lv_at hl 0 rfl) ?_
      refine lv_if_lt (tgt := 102) hx hb dX8_isStep_89 (by decide) (fun c89_12 => ?_) (fun c89_12 => ?_)
      · refine lv_iconst (v := 0) hx hb dX8_isStep_102 (by decide) ?_
        refine fw_zret X hF hS rfl ?_ (Nat.le_of_ble_eq_true rfl) (Nat.le_of_ble_eq_true rfl) dX8_isStep_103
        refine ⟨congrArg (fun z => some (Value.int (bz z))) (show false = okS k a b d from ?_), rfl⟩
        have hk := wi_f1 (n := 17) c89_12
        rw [sw3] at hk
        simp [okS, c5_2, sw3, hk]
      · refine lv_iload_n hx hb dX8_isStep_92 rfl (lv_at hl 0 rfl) ?_
        refine lv_bipush (v := 16) hx hb dX8_isStep_93 (by decide) ?_
        refine lv_icmp_gt (tgt := 102) hx hb dX8_isStep_95 (by decide) (fun c95_13 => ?_) (fun c95_13 => ?_)
        · refine lv_iconst (v := 0) hx hb dX8_isStep_102 (by decide) ?_
          refine fw_zret X hF hS rfl ?_ (Nat.le_of_ble_eq_true rfl) (Nat.le_of_ble_eq_true rfl) dX8_isStep_103
          refine ⟨congrArg (fun z => some (Value.int (bz z))) (show false = okS k a b d from ?_), rfl⟩
          have hk := wi17f c95_13
          rw [sw3] at hk
          simp [okS, c5_2, sw3, hk]
        · refine lv_iconst (v := 1) hx hb dX8_isStep_98 (by decide) ?_
          refine lv_goto (tgt := 103) hx hb dX8_isStep_99 (by decide) ?_
          refine fw_zret X hF hS rfl ?_ (Nat.le_of_ble_eq_true rfl) (Nat.le_of_ble_eq_true rfl) dX8_isStep_103
          refine ⟨congrArg (fun z => some (Value.int (bz z))) (show true = okS k a b d from ?_), rfl⟩
          have hk := wi17 c89_12 c95_13
          rw [sw3] at hk
          simp [okS, c5_2, sw3, hk]
    · refine lv_tableIn (off := 71) (tgt := 82) hx hb dX8_isStep_11 (by rw [sw3]; decide) (by rw [sw3]; decide) (by rw [sw3]; rfl) (by decide) ?_
      refine lv_iload_n hx hb dX8_isStep_82 rfl (lv_at hl 3 rfl) ?_
      refine lv_iconst (v := 4) hx hb dX8_isStep_83 (by decide) ?_
      refine fw_callS (As := [.int d, .int 4]) (rest := []) X bs_all nw_all mf_X8_isWithin (c_X8_isWithin l D cs _ _ d 4) wm_208 wm_209 hF hS rfl ((⟨⟨Nat.le_of_ble_eq_true rfl, Nat.le_of_ble_eq_true rfl⟩, Nat.le_of_ble_eq_true rfl, Nat.le_of_ble_eq_true rfl⟩)) rfl hl.1 rfl (Nat.le_of_ble_eq_true rfl) dX8_isStep_84 (fun v u14 H locs hp hF hS hz1 hk1 hd1 => ?_)
      obtain ⟨rfl, hw1⟩ := hp
      rw [hw1] at hF
      refine W.eq (g2 := F0 m 87 ls [.int (bz (wi d 4))]) rfl ?_
      refine fw_zret X hF hS (gx_nbz _) ?_ (Nat.le_of_ble_eq_true rfl) (Nat.le_of_ble_eq_true rfl) dX8_isStep_87
      refine ⟨congrArg (fun z => some (Value.int (bz z))) (show (wi d 4) = okS k a b d from ?_), rfl⟩
      simp [okS, c5_2, sw3]
      all_goals first | decide | (intro _; decide)
    · refine lv_tableOut (tgt := 88) hx hb dX8_isStep_11 sw3 (by decide) ?_
      have n7 : ¬ k = 7 := fun q => by rw [q] at sw3; revert sw3; decide
      have n8 : ¬ k = 8 := fun q => by rw [q] at sw3; revert sw3; decide
      have n9 : ¬ k = 9 := fun q => by rw [q] at sw3; revert sw3; decide
      have n13 : ¬ k = 13 := fun q => by rw [q] at sw3; revert sw3; decide
      refine lv_iload_n hx hb dX8_isStep_88 rfl (lv_at hl 0 rfl) ?_
      refine lv_if_lt (tgt := 102) hx hb dX8_isStep_89 (by decide) (fun c89_15 => ?_) (fun c89_15 => ?_)
      · refine lv_iconst (v := 0) hx hb dX8_isStep_102 (by decide) ?_
        refine fw_zret X hF hS rfl ?_ (Nat.le_of_ble_eq_true rfl) (Nat.le_of_ble_eq_true rfl) dX8_isStep_103
        refine ⟨congrArg (fun z => some (Value.int (bz z))) (show false = okS k a b d from ?_), rfl⟩
        have hk := wi_f1 (n := 17) c89_15
        simp [okS, c5_2, n7, n8, n9, n13, hk]
      · refine lv_iload_n hx hb dX8_isStep_92 rfl (lv_at hl 0 rfl) ?_
        refine lv_bipush (v := 16) hx hb dX8_isStep_93 (by decide) ?_
        refine lv_icmp_gt (tgt := 102) hx hb dX8_isStep_95 (by decide) (fun c95_16 => ?_) (fun c95_16 => ?_)
        · refine lv_iconst (v := 0) hx hb dX8_isStep_102 (by decide) ?_
          refine fw_zret X hF hS rfl ?_ (Nat.le_of_ble_eq_true rfl) (Nat.le_of_ble_eq_true rfl) dX8_isStep_103
          refine ⟨congrArg (fun z => some (Value.int (bz z))) (show false = okS k a b d from ?_), rfl⟩
          have hk := wi17f c95_16
          simp [okS, c5_2, n7, n8, n9, n13, hk]
        · refine lv_iconst (v := 1) hx hb dX8_isStep_98 (by decide) ?_
          refine lv_goto (tgt := 103) hx hb dX8_isStep_99 (by decide) ?_
          refine fw_zret X hF hS rfl ?_ (Nat.le_of_ble_eq_true rfl) (Nat.le_of_ble_eq_true rfl) dX8_isStep_103
          refine ⟨congrArg (fun z => some (Value.int (bz z))) (show true = okS k a b d from ?_), rfl⟩
          have hk := wi17 c89_15 c95_16
          simp [okS, c5_2, n7, n8, n9, n13, hk]
  · refine lv_iconst (v := 0) hx hb dX8_isStep_8 (by decide) ?_
    refine fw_zret X hF hS rfl ?_ (Nat.le_of_ble_eq_true rfl) (Nat.le_of_ble_eq_true rfl) dX8_isStep_9
    refine ⟨congrArg (fun z => some (Value.int (bz z))) (show false = okS k a b d from ?_), rfl⟩
    simp [okS, c5_2]
    all_goals first | decide | (intro _; decide)
set_option maxHeartbeats 4000000 in
set_option maxRecDepth 100000 in
theorem c_X8_measure (l : Launch) (D : va_G) (cs : Nat → ClassId) (w : fW) (sz : Nat) (ad : Nat → Nat) (T : Sg) (jf : Nat → Nat → Option Nat) (hW : SW cs ad T jf w) (a b d : Int32) (ha : wi a 4 = true) : gM l bs_B nw_B D cls10 (tyl cs) yX8_measure cX8_measure 4 (some .long) 2 42 0 0 w sz [.ref (ad 0), .int a, .int b, .int d] (fun v w' => v = some (.long (oc (spLong a b d T))) ∧ w' = w) := by
  refine gM.of (by decide +kernel) (Nat.le_of_ble_eq_true rfl) (fun p e s m below meth c A ls X hsz hnm hF hS hl => ?_)
  have hx := X.1
  have hb := X.2.1
  have hl : lv_has ls 4 [(0, .ref (ad 0)), (1, .int a), (2, .int b), (3, .int d)] := hl
  refine lv_iload_n hx hb dX8_measure_0 rfl (lv_at hl 2 rfl) ?_
  rcases gx_sw3 b with sw1 | sw1 | sw1 | sw1
  · refine lv_tableIn (off := 27) (tgt := 28) hx hb dX8_measure_1 (by rw [sw1]; decide) (by rw [sw1]; decide) (by rw [sw1]; rfl) (by decide) ?_
    refine lv_aload_n hx hb dX8_measure_28 rfl (lv_at hl 0 rfl) ?_
    refine fw_get X gC_ok hF (hW.2.1) rfl 1 (by decide) wm_177 rfl dX8_measure_29 ?_
    refine lv_iload_n hx hb dX8_measure_32 rfl (lv_at hl 1 rfl) ?_
    refine fw_aldq X hF (hW.2.2.2.1) 3 rfl (wi_in ha (N := 4) (by decide)) (v := some (ad (14 + (ix a)))) rfl dX8_measure_33 ?_
    refine W.eq (g2 := F0 m 34 ls [.ref (ad (14 + (ix a)))]) rfl ?_
    refine fw_get X gC_ok hF (hW.2.2.2.2.2.2.2.2.2.2.2.1 (ix a) (wi_lt ha (N := 4) (by decide))) rfl 1 (by decide) wm_121 rfl dX8_measure_34 ?_
    refine fw_callS (As := [.int ((tBa T (ix a)).1)]) (rest := []) X bs_all nw_all mf_X8_lengthOrFailure (c_X8_lengthOrFailure l D cs _ _ ((tBa T (ix a)).1)) wm_303 wm_304 hF hS rfl ((⟨⟨Nat.le_of_ble_eq_true rfl, Nat.le_of_ble_eq_true rfl⟩, Nat.le_of_ble_eq_true rfl, Nat.le_of_ble_eq_true rfl⟩)) rfl hl.1 rfl (Nat.le_of_ble_eq_true rfl) dX8_measure_37 (fun v u2 H locs hp hF hS hz1 hk1 hd1 => ?_)
    obtain ⟨rfl, hw1⟩ := hp
    rw [hw1] at hF
    refine W.eq (g2 := F0 m 40 ls [.long (if ((tBa T (ix a)).1) = -1 then fl 1 else ((tBa T (ix a)).1).toInt64)]) rfl ?_
    refine fw_lret X hF hS ?_ (Nat.le_of_ble_eq_true rfl) (Nat.le_of_ble_eq_true rfl) dX8_measure_40
    refine ⟨?_, rfl⟩
    rw [← oc_len]
    simp [spLong, sw1]
  · refine lv_tableIn (off := 40) (tgt := 41) hx hb dX8_measure_1 (by rw [sw1]; decide) (by rw [sw1]; decide) (by rw [sw1]; rfl) (by decide) ?_
    refine lv_aload_n hx hb dX8_measure_41 rfl (lv_at hl 0 rfl) ?_
    refine fw_get X gC_ok hF (hW.2.1) rfl 2 (by decide) wm_178 rfl dX8_measure_42 ?_
    refine lv_iload_n hx hb dX8_measure_45 rfl (lv_at hl 1 rfl) ?_
    refine fw_aldq X hF (hW.2.2.2.2.1) 4 rfl (wi_in ha (N := 4) (by decide)) (v := some (ad (22 + (ix a)))) rfl dX8_measure_46 ?_
    refine W.eq (g2 := F0 m 47 ls [.ref (ad (22 + (ix a)))]) rfl ?_
    refine fw_get X gC_ok hF (hW.2.2.2.2.2.2.2.2.2.2.2.2.2.1 (ix a) (wi_lt ha (N := 4) (by decide))) rfl 1 (by decide) wm_136 rfl dX8_measure_47 ?_
    refine fw_callS (As := [.int ((tRa T (ix a)).1)]) (rest := []) X bs_all nw_all mf_X8_lengthOrFailure (c_X8_lengthOrFailure l D cs _ _ ((tRa T (ix a)).1)) wm_303 wm_304 hF hS rfl ((⟨⟨Nat.le_of_ble_eq_true rfl, Nat.le_of_ble_eq_true rfl⟩, Nat.le_of_ble_eq_true rfl, Nat.le_of_ble_eq_true rfl⟩)) rfl hl.1 rfl (Nat.le_of_ble_eq_true rfl) dX8_measure_50 (fun v u3 H locs hp hF hS hz1 hk1 hd1 => ?_)
    obtain ⟨rfl, hw1⟩ := hp
    rw [hw1] at hF
    refine W.eq (g2 := F0 m 53 ls [.long (if ((tRa T (ix a)).1) = -1 then fl 1 else ((tRa T (ix a)).1).toInt64)]) rfl ?_
    refine fw_lret X hF hS ?_ (Nat.le_of_ble_eq_true rfl) (Nat.le_of_ble_eq_true rfl) dX8_measure_53
    refine ⟨?_, rfl⟩
    rw [← oc_len]
    simp [spLong, sw1]
  · refine lv_tableIn (off := 53) (tgt := 54) hx hb dX8_measure_1 (by rw [sw1]; decide) (by rw [sw1]; decide) (by rw [sw1]; rfl) (by decide) ?_
    refine lv_aload_n hx hb dX8_measure_54 rfl (lv_at hl 0 rfl) ?_
    refine fw_get X gC_ok hF (hW.2.1) rfl 3 (by decide) wm_179 rfl dX8_measure_55 ?_
    refine lv_iload_n hx hb dX8_measure_58 rfl (lv_at hl 1 rfl) ?_
    refine fw_aldq X hF (hW.2.2.2.2.2.1) 5 rfl (wi_in ha (N := 4) (by decide)) (v := some (ad (30 + (ix a)))) rfl dX8_measure_59 ?_
    refine W.eq (g2 := F0 m 60 ls [.ref (ad (30 + (ix a)))]) rfl ?_
    refine fw_get X gC_ok hF (hW.2.2.2.2.2.2.2.2.2.2.2.2.2.2.2.1 (ix a) (wi_lt ha (N := 4) (by decide))) rfl 1 (by decide) wm_152 rfl dX8_measure_60 ?_
    refine fw_callS (As := [.int ((tGr T (ix a)).1)]) (rest := []) X bs_all nw_all mf_X8_lengthOrFailure (c_X8_lengthOrFailure l D cs _ _ ((tGr T (ix a)).1)) wm_303 wm_304 hF hS rfl ((⟨⟨Nat.le_of_ble_eq_true rfl, Nat.le_of_ble_eq_true rfl⟩, Nat.le_of_ble_eq_true rfl, Nat.le_of_ble_eq_true rfl⟩)) rfl hl.1 rfl (Nat.le_of_ble_eq_true rfl) dX8_measure_63 (fun v u4 H locs hp hF hS hz1 hk1 hd1 => ?_)
    obtain ⟨rfl, hw1⟩ := hp
    rw [hw1] at hF
    refine W.eq (g2 := F0 m 66 ls [.long (if ((tGr T (ix a)).1) = -1 then fl 1 else ((tGr T (ix a)).1).toInt64)]) rfl ?_
    refine fw_lret X hF hS ?_ (Nat.le_of_ble_eq_true rfl) (Nat.le_of_ble_eq_true rfl) dX8_measure_66
    refine ⟨?_, rfl⟩
    rw [← oc_len]
    simp [spLong, sw1]
  · refine lv_tableOut (tgt := 67) hx hb dX8_measure_1 sw1 (by decide) ?_
    refine lv_aload_n hx hb dX8_measure_67 rfl (lv_at hl 0 rfl) ?_
    refine fw_get X gC_ok hF (hW.2.1) rfl 3 (by decide) wm_179 rfl dX8_measure_68 ?_
    refine lv_iload_n hx hb dX8_measure_71 rfl (lv_at hl 1 rfl) ?_
    refine fw_aldq X hF (hW.2.2.2.2.2.1) 5 rfl (wi_in ha (N := 4) (by decide)) (v := some (ad (30 + (ix a)))) rfl dX8_measure_72 ?_
    refine W.eq (g2 := F0 m 73 ls [.ref (ad (30 + (ix a)))]) rfl ?_
    refine lv_iload_n hx hb dX8_measure_73 rfl (lv_at hl 3 rfl) ?_
    refine fw_callV (As := [.int d]) (rest := []) X bs_all nw_all mf_X1_rowLength (c_X1_rowLength l D cs _ _ (ad (30 + (ix a))) (ad (34 + (ix a))) ((tGr T (ix a)).1) ((tGr T (ix a)).2.1) ((tGr T (ix a)).2.2) (hW.2.2.2.2.2.2.2.2.2.2.2.2.2.2.2.1 (ix a) (wi_lt ha (N := 4) (by decide))) (hW.2.2.2.2.2.2.2.2.2.2.2.2.2.2.2.2.1 (ix a) (wi_lt ha (N := 4) (by decide))) d) wm_307 wm_308 wm_309 hF hS rfl (hW.2.2.2.2.2.2.2.2.2.2.2.2.2.2.2.1 (ix a) (wi_lt ha (N := 4) (by decide))) rfl rfl ((⟨⟨Nat.le_of_ble_eq_true rfl, Nat.le_of_ble_eq_true rfl⟩, Nat.le_of_ble_eq_true rfl, Nat.le_of_ble_eq_true rfl⟩)) rfl hl.1 rfl (Nat.le_of_ble_eq_true rfl) dX8_measure_74 (fun v u5 H locs hp hF hS hz1 hk1 hd1 => ?_)
    rcases hp with ⟨k1, rfl, hw1⟩ | ⟨k1, k2, rfl, hw1⟩ | ⟨k1, k2, rfl, hw1⟩
    · rw [hw1] at hF
      refine W.eq (g2 := F0 m 77 ls [.long (fl 1)]) rfl ?_
      refine fw_lret X hF hS ?_ (Nat.le_of_ble_eq_true rfl) (Nat.le_of_ble_eq_true rfl) dX8_measure_77
      have m0 : ¬ b = 0 := fun q => by rw [q] at sw1; revert sw1; decide
      have m1 : ¬ b = 1 := fun q => by rw [q] at sw1; revert sw1; decide
      have m2 : ¬ b = 2 := fun q => by rw [q] at sw1; revert sw1; decide
      refine ⟨?_, rfl⟩
      simp [spLong, spRow, oc, m0, m1, m2, k1]
    · rw [hw1] at hF
      refine W.eq (g2 := F0 m 77 ls [.long (fl 3)]) rfl ?_
      refine fw_lret X hF hS ?_ (Nat.le_of_ble_eq_true rfl) (Nat.le_of_ble_eq_true rfl) dX8_measure_77
      have m0 : ¬ b = 0 := fun q => by rw [q] at sw1; revert sw1; decide
      have m1 : ¬ b = 1 := fun q => by rw [q] at sw1; revert sw1; decide
      have m2 : ¬ b = 2 := fun q => by rw [q] at sw1; revert sw1; decide
      refine ⟨?_, rfl⟩
      simp [spLong, spRow, oc, m0, m1, m2, k1, k2]
    · rw [hw1] at hF
      refine W.eq (g2 := F0 m 77 ls [.long (((tGr T (ix a)).2.1).toInt64)]) rfl ?_
      refine fw_lret X hF hS ?_ (Nat.le_of_ble_eq_true rfl) (Nat.le_of_ble_eq_true rfl) dX8_measure_77
      have m0 : ¬ b = 0 := fun q => by rw [q] at sw1; revert sw1; decide
      have m1 : ¬ b = 1 := fun q => by rw [q] at sw1; revert sw1; decide
      have m2 : ¬ b = 2 := fun q => by rw [q] at sw1; revert sw1; decide
      refine ⟨?_, rfl⟩
      simp [spLong, spRow, oc, m0, m1, m2, k1, k2]
set_option maxHeartbeats 4000000 in
set_option maxRecDepth 100000 in
theorem c_X8_excuse (l : Launch) (D : va_G) (cs : Nat → ClassId) (w : fW) (sz : Nat) (ad : Nat → Nat) (T : Sg) (jf : Nat → Nat → Option Nat) (hW : SW cs ad T jf w) (a b : Int32) (ha : wi a 4 = true) : gM l bs_B nw_B D cls10 (tyl cs) yX8_excuse cX8_excuse 3 (some .long) 0 0 0 0 w sz [.ref (ad 0), .int a, .int b] (fun v w' => v = some (.long b.toInt64) ∧ w' = va_up w (ad 6) (some (.inl (cs 0, 4, .inl (upd (tEx T) (ix a) (excI b)))))) := by
  refine gM.of (by decide +kernel) (Nat.le_of_ble_eq_true rfl) (fun p e s m below meth c A ls X hsz hnm hF hS hl => ?_)
  have hx := X.1
  have hb := X.2.1
  have hl : lv_has ls 3 [(0, .ref (ad 0)), (1, .int a), (2, .int b)] := hl
  refine lv_iload_n hx hb dX8_excuse_0 rfl (lv_at hl 2 rfl) ?_
  rcases gx_lk01 b with sw1 | sw1 | sw1
  · refine lv_lookup (off := 27) (tgt := 28) hx hb dX8_excuse_1 (by decide) (by rw [sw1]; rfl) (by decide) ?_
    refine lv_aload_n hx hb dX8_excuse_28 rfl (lv_at hl 0 rfl) ?_
    refine fw_get X gC_ok hF (hW.2.1) rfl 5 (by decide) wm_181 rfl dX8_excuse_29 ?_
    refine lv_iload_n hx hb dX8_excuse_32 rfl (lv_at hl 1 rfl) ?_
    refine lv_iconst (v := 1) hx hb dX8_excuse_33 (by decide) ?_
    refine fw_iast X hF hS (hW.2.2.2.2.2.2.2.1) 0 rfl (wi_in ha (N := 4) (by decide)) dX8_excuse_34 (fun H locs hF hS => ?_)
    have hF : fw_P D cls10 A (va_up w (ad 6) (some (.inl (cs 0, 4, .inl (upd (tEx T) (ix a) 1))))) H := hF
    refine lv_goto (tgt := 57) hx hb dX8_excuse_35 (by decide) ?_
    refine lv_iload_n hx hb dX8_excuse_57 rfl (lv_at hl 2 rfl) ?_
    refine lv_i2l hx hb dX8_excuse_58 rfl ?_
    refine fw_lret X hF hS ?_ (Nat.le_of_ble_eq_true rfl) (Nat.le_of_ble_eq_true rfl) dX8_excuse_59
    refine ⟨rfl, ?_⟩
    simp [excI, sw1]
  · refine lv_lookup (off := 37) (tgt := 38) hx hb dX8_excuse_1 (by decide) (by rw [sw1]; rfl) (by decide) ?_
    refine lv_aload_n hx hb dX8_excuse_38 rfl (lv_at hl 0 rfl) ?_
    refine fw_get X gC_ok hF (hW.2.1) rfl 5 (by decide) wm_181 rfl dX8_excuse_39 ?_
    refine lv_iload_n hx hb dX8_excuse_42 rfl (lv_at hl 1 rfl) ?_
    refine lv_bipush (v := 6) hx hb dX8_excuse_43 (by decide) ?_
    refine fw_iast X hF hS (hW.2.2.2.2.2.2.2.1) 0 rfl (wi_in ha (N := 4) (by decide)) dX8_excuse_45 (fun H locs hF hS => ?_)
    have hF : fw_P D cls10 A (va_up w (ad 6) (some (.inl (cs 0, 4, .inl (upd (tEx T) (ix a) 6))))) H := hF
    refine lv_goto (tgt := 57) hx hb dX8_excuse_46 (by decide) ?_
    refine lv_iload_n hx hb dX8_excuse_57 rfl (lv_at hl 2 rfl) ?_
    refine lv_i2l hx hb dX8_excuse_58 rfl ?_
    refine fw_lret X hF hS ?_ (Nat.le_of_ble_eq_true rfl) (Nat.le_of_ble_eq_true rfl) dX8_excuse_59
    refine ⟨rfl, ?_⟩
    simp [excI, sw1]
  · refine lv_lookup (off := 48) (tgt := 49) hx hb dX8_excuse_1 (by decide) (by rw [show (#[(0, 27), (1, 37)] : Array (Int × Int)).toList = [(0, 27), (1, 37)] from rfl, lv_osw (a := 0) sw1.1 rfl, lv_osw (a := 1) sw1.2 rfl]; rfl) (by decide) ?_
    refine lv_aload_n hx hb dX8_excuse_49 rfl (lv_at hl 0 rfl) ?_
    refine fw_get X gC_ok hF (hW.2.1) rfl 5 (by decide) wm_181 rfl dX8_excuse_50 ?_
    refine lv_iload_n hx hb dX8_excuse_53 rfl (lv_at hl 1 rfl) ?_
    refine lv_bipush (v := 7) hx hb dX8_excuse_54 (by decide) ?_
    refine fw_iast X hF hS (hW.2.2.2.2.2.2.2.1) 0 rfl (wi_in ha (N := 4) (by decide)) dX8_excuse_56 (fun H locs hF hS => ?_)
    have hF : fw_P D cls10 A (va_up w (ad 6) (some (.inl (cs 0, 4, .inl (upd (tEx T) (ix a) 7))))) H := hF
    refine lv_iload_n hx hb dX8_excuse_57 rfl (lv_at hl 2 rfl) ?_
    refine lv_i2l hx hb dX8_excuse_58 rfl ?_
    refine fw_lret X hF hS ?_ (Nat.le_of_ble_eq_true rfl) (Nat.le_of_ble_eq_true rfl) dX8_excuse_59
    refine ⟨rfl, ?_⟩
    simp [excI, sw1.1, sw1.2]
