theorem inn_17 (r : Int32) : inn r.toInt64 1 7 = wi (r - 1) 7 := by
  cases h : wi (r - 1) 7 with
  | true =>
    obtain ⟨j, hj, e⟩ := vp_in_of (wi_in h (N := 7) (by decide)) (by decide)
    have e2 : r = nI (j + 1) := by
      have : r = (r - 1) + 1 := by simp
      rw [this, e, nI_1]
    have h3 : (1 : Int64).toInt = 1 := rfl
    have h4 : (7 : Int64).toInt = 7 := rfl
    rw [inn_iff, h3, h4, Int32.toInt_toInt64, e2, nI_toInt (by omega)]
    omega
  | false =>
    cases h2 : inn r.toInt64 1 7 with
    | false => rfl
    | true =>
      exfalso
      have h3 : (1 : Int64).toInt = 1 := rfl
      have h4 : (7 : Int64).toInt = 7 := rfl
      have h5 : (1 : Int32).toInt = 1 := rfl
      have h6 : (7 : Int32).toInt = 7 := rfl
      rw [inn_iff, h3, h4, Int32.toInt_toInt64] at h2
      have := (wi7t (r := r) (fun z => by have := Int32.lt_iff_toInt_lt.mp z; omega) (fun z => by have := Int32.lt_iff_toInt_lt.mp z; omega)).1
      rw [h] at this
      cases this
def hgM (M : Nat → Nat → Int32) (x : Int32) : Nat → Bool
  | 0 => false
  | n + 1 => hgM M x n || (!decide (x = -1) && (decide (nI (n % 20) < M 10 (n / 20)) && decide (M 12 n = x)))
theorem hgM_iff {M : Nat → Nat → Int32} {x : Int32} : ∀ n, hgM M x n = true ↔ (¬ x = -1 ∧ ∃ k, k < n ∧ nI (k % 20) < M 10 (k / 20) ∧ M 12 k = x) := by
  intro n
  induction n with
  | zero => exact ⟨(fun h => by cases h), fun ⟨_, k, h, _⟩ => absurd h (Nat.not_lt_zero _)⟩
  | succ n ih =>
    simp only [hgM, Bool.or_eq_true, Bool.and_eq_true, decide_eq_true_eq, Bool.not_eq_true', decide_eq_false_iff_not]
    rw [ih]
    constructor
    · rintro (⟨h1, k, h2, h3, h4⟩ | ⟨h1, h3, h4⟩)
      · exact ⟨h1, k, by omega, h3, h4⟩
      · exact ⟨h1, n, by omega, h3, h4⟩
    · rintro ⟨h1, k, h2, h3, h4⟩
      rcases Nat.lt_or_ge k n with z | z
      · exact Or.inl ⟨h1, k, z, h3, h4⟩
      · have e : k = n := by omega
        subst e
        exact Or.inr ⟨h1, h3, h4⟩
theorem hldN_iff {o : Option Nat} {f : Nat → Option Nat} : ∀ n, hldN o f n = true ↔ (o.isSome = true ∧ ∃ j, j < n ∧ f j = o) := by
  intro n
  induction n with
  | zero => exact ⟨(fun h => by cases h), fun ⟨_, k, h, _⟩ => absurd h (Nat.not_lt_zero _)⟩
  | succ n ih =>
    simp only [hldN, Bool.or_eq_true, Bool.and_eq_true, beq_iff_eq]
    rw [ih]
    constructor
    · rintro (⟨h1, k, h2, h3⟩ | ⟨h1, h3⟩)
      · exact ⟨h1, k, by omega, h3⟩
      · exact ⟨h1, n, by omega, h3⟩
    · rintro ⟨h1, k, h2, h3⟩
      rcases Nat.lt_or_ge k n with z | z
      · exact Or.inl ⟨h1, k, z, h3⟩
      · have e : k = n := by omega
        subst e
        exact Or.inr ⟨h1, h3⟩
theorem hgN_iff {T : Sg} {o : Option Nat} : ∀ n, hgN T o n = true ↔ (o.isSome = true ∧ ∃ i j, i < n ∧ j < ix (tRa T i).1 ∧ (tRa T i).2.2 j = o) := by
  intro n
  induction n with
  | zero => exact ⟨(fun h => by cases h), fun ⟨_, i, j, h, _⟩ => absurd h (Nat.not_lt_zero _)⟩
  | succ n ih =>
    simp only [hgN, Bool.or_eq_true]
    rw [ih, hldN_iff]
    constructor
    · rintro (⟨h1, i, j, h2, h3, h4⟩ | ⟨h1, j, h3, h4⟩)
      · exact ⟨h1, i, j, by omega, h3, h4⟩
      · exact ⟨h1, n, j, by omega, h3, h4⟩
    · rintro ⟨h1, i, j, h2, h3, h4⟩
      rcases Nat.lt_or_ge i n with z | z
      · exact Or.inl ⟨h1, i, j, z, h3, h4⟩
      · have e : i = n := by omega
        subst e
        exact Or.inr ⟨h1, j, h3, h4⟩
theorem hg_eq {sl : Nat → Nat} {T : Sg} {M : Nat → Nat → Int32} (h : MR sl T M) (hI : Inv T) {o : Option Nat} (ho : ∀ q, o = some q → liv T q) : hgM M (slI sl o) 80 = hgN T o 4 := by
  refine beq_iff ?_
  rw [hgM_iff, hgN_iff, slI_1 h ho]
  constructor
  · rintro ⟨h1, k, h2, h3, h4⟩
    cases o with
    | none => exact absurd rfl h1
    | some q =>
      refine ⟨rfl, k / 20, k % 20, by omega, ?_, ?_⟩
      · rw [(h.2.2.2.2.1 (k / 20) (by omega)).1] at h3
        obtain ⟨N, hN, hNi, hle⟩ := (hI.2.2.1 (k / 20) (by omega)).1.nat
        rw [hNi]
        rcases Nat.lt_or_ge (k % 20) N with z | z
        · exact z
        · exfalso
          by_cases hk : k % 20 ≤ 12
          · exact absurd h3 (i_nlt.mpr ((hle _ hk).mpr z))
          · have hl := (hI.2.2.1 (k / 20) (by omega)).1.2
            have a1 := Int32.le_iff_toInt_le.mp hl
            have a2 := Int32.lt_iff_toInt_lt.mp h3
            rw [nI_toInt (by omega)] at a2
            have e2 : (12 : Int32).toInt = 12 := rfl
            omega
      · have hj : k % 20 < ix (tRa T (k / 20)).1 := by
          rw [(h.2.2.2.2.1 (k / 20) (by omega)).1] at h3
          obtain ⟨N, hN, hNi, hle⟩ := (hI.2.2.1 (k / 20) (by omega)).1.nat
          rw [hNi]
          rcases Nat.lt_or_ge (k % 20) N with z | z
          · exact z
          · exfalso
            by_cases hk : k % 20 ≤ 12
            · exact absurd h3 (i_nlt.mpr ((hle _ hk).mpr z))
            · have hl := (hI.2.2.1 (k / 20) (by omega)).1.2
              have a1 := Int32.le_iff_toInt_le.mp hl
              have a2 := Int32.lt_iff_toInt_lt.mp h3
              rw [nI_toInt (by omega)] at a2
              have e2 : (12 : Int32).toInt = 12 := rfl
              omega
        have hm := (h.2.2.2.2.1 (k / 20) (by omega)).2.2 (k % 20) hj
        rw [show 20 * (k / 20) + k % 20 = k by omega, h4] at hm
        have hq := ho q rfl
        obtain ⟨r, e1, hr, e2⟩ := h.slotq (o := (tRa T (k / 20)).2.2 (k % 20)) (fun r z => Or.inr ⟨k / 20, k % 20, by omega, hj, z⟩) hm (h.2.1 q hq).1 rfl
        rw [e1, h.2.2.1 q r hq hr e2]
  · rintro ⟨h1, i, j, h2, h3, h4⟩
    refine ⟨(fun z => by rw [z] at h1; cases h1), 20 * i + j, ?_, ?_, ?_⟩
    · have := hI.raL h2 h3; omega
    · have := hI.raL h2 h3
      rw [show (20 * i + j) % 20 = j by omega, show (20 * i + j) / 20 = i by omega, (h.2.2.2.2.1 i h2).1]
      obtain ⟨N, hN, hNi, hle⟩ := (hI.2.2.1 i h2).1.nat
      refine i_nle.mp (fun z => ?_)
      have := (hle j (by omega)).mp z
      omega
    · rw [(h.2.2.2.2.1 i h2).2.2 j h3, h4]
theorem b2_add (a b : Bool) : b2 a b = (if a then 1 else 0) + (if b then 2 else 0) := by cases a <;> cases b <;> rfl
theorem wi78 {r : Int32} (h : wi (r - 1) 7 = true) : wi r 8 = true := by
  obtain ⟨j, hj, e⟩ := vp_in_of (wi_in h (N := 7) (by decide)) (by decide)
  have e2 : r = nI (j + 1) := by
    have : r = (r - 1) + 1 := by simp
    rw [this, e, nI_1]
  rw [e2, wi_iff, nI_toInt (by omega)]
  have h4 : (8 : Int32).toInt = 8 := rfl
  omega
set_option maxHeartbeats 4000000 in
set_option maxRecDepth 100000 in
theorem c_X9_told (l : Launch) (D : va_G) (cs : Nat → ClassId) (w : fW) (sz : Nat) (am : Nat → Nat) (M : Nat → Nat → Int32) (R : aRe) (wy an : Int32) (hM : MWd cs am (M, R, wy, an) w) (sl : Nat → Nat) (T : Sg) (hR : MR sl T M) (hRe : R = tRe T) (hI : Inv T) (k : Int32) : gM l bs_B nw_B D cls10 (tyl cs) yX9_told cX9_told 2 (some .int) 0 0 0 0 w sz [.ref (am 28), .int k] (fun v w' => v = some (.int (spTold (tRe T) k)) ∧ MWd cs am (M, R, wy, an) w') := by
  refine gM.of (by decide +kernel) (Nat.le_of_ble_eq_true rfl) (fun p e s m below meth c A ls X hsz hnm hF hS hl => ?_)
  have hx := X.1
  have hb := X.2.1
  have hl : lv_has ls 2 [(0, .ref (am 28)), (1, .int k)] := hl
  refine lv_iload_n hx hb dX9_told_0 rfl (lv_at hl 1 rfl) ?_
  rcases gx_sw5 k with sw1 | sw1 | sw1 | sw1 | sw1 | sw1
  · refine lv_tableIn (off := 35) (tgt := 36) hx hb dX9_told_1 (by rw [sw1]; decide) (by rw [sw1]; decide) (by rw [sw1]; rfl) (by decide) ?_
    refine lv_aload_n hx hb dX9_told_36 rfl (lv_at hl 0 rfl) ?_
    refine fw_get (v := .int R.1) X gC_ok hF hM.2.1 rfl 19 (by decide) wm_498 rfl dX9_told_37 ?_
    refine fw_iret X hF hS ?_ (Nat.le_of_ble_eq_true rfl) (Nat.le_of_ble_eq_true rfl) dX9_told_40
    exact ⟨by rw [← hRe]; simp [spTold, sw1], hM⟩
  · refine lv_tableIn (off := 40) (tgt := 41) hx hb dX9_told_1 (by rw [sw1]; decide) (by rw [sw1]; decide) (by rw [sw1]; rfl) (by decide) ?_
    refine lv_aload_n hx hb dX9_told_41 rfl (lv_at hl 0 rfl) ?_
    refine fw_get (v := .int R.2.1) X gC_ok hF hM.2.1 rfl 20 (by decide) wm_499 rfl dX9_told_42 ?_
    refine fw_iret X hF hS ?_ (Nat.le_of_ble_eq_true rfl) (Nat.le_of_ble_eq_true rfl) dX9_told_45
    exact ⟨by rw [← hRe]; simp [spTold, sw1], hM⟩
  · refine lv_tableIn (off := 45) (tgt := 46) hx hb dX9_told_1 (by rw [sw1]; decide) (by rw [sw1]; decide) (by rw [sw1]; rfl) (by decide) ?_
    refine lv_aload_n hx hb dX9_told_46 rfl (lv_at hl 0 rfl) ?_
    refine fw_get (v := .int R.2.2.1) X gC_ok hF hM.2.1 rfl 21 (by decide) wm_500 rfl dX9_told_47 ?_
    refine fw_iret X hF hS ?_ (Nat.le_of_ble_eq_true rfl) (Nat.le_of_ble_eq_true rfl) dX9_told_50
    exact ⟨by rw [← hRe]; simp [spTold, sw1], hM⟩
  · refine lv_tableIn (off := 50) (tgt := 51) hx hb dX9_told_1 (by rw [sw1]; decide) (by rw [sw1]; decide) (by rw [sw1]; rfl) (by decide) ?_
    refine lv_aload_n hx hb dX9_told_51 rfl (lv_at hl 0 rfl) ?_
    refine fw_get (v := .int R.2.2.2.1) X gC_ok hF hM.2.1 rfl 22 (by decide) wm_501 rfl dX9_told_52 ?_
    refine fw_iret X hF hS ?_ (Nat.le_of_ble_eq_true rfl) (Nat.le_of_ble_eq_true rfl) dX9_told_55
    exact ⟨by rw [← hRe]; simp [spTold, sw1], hM⟩
  · refine lv_tableIn (off := 55) (tgt := 56) hx hb dX9_told_1 (by rw [sw1]; decide) (by rw [sw1]; decide) (by rw [sw1]; rfl) (by decide) ?_
    refine lv_aload_n hx hb dX9_told_56 rfl (lv_at hl 0 rfl) ?_
    refine fw_get (v := .int R.2.2.2.2.1) X gC_ok hF hM.2.1 rfl 23 (by decide) wm_502 rfl dX9_told_57 ?_
    refine fw_iret X hF hS ?_ (Nat.le_of_ble_eq_true rfl) (Nat.le_of_ble_eq_true rfl) dX9_told_60
    exact ⟨by rw [← hRe]; simp [spTold, sw1], hM⟩
  · refine lv_tableOut (tgt := 61) hx hb dX9_told_1 sw1 (by decide) ?_
    have n0 : ¬ k = 0 := fun q => by rw [q] at sw1; revert sw1; decide
    have n1 : ¬ k = 1 := fun q => by rw [q] at sw1; revert sw1; decide
    have n2 : ¬ k = 2 := fun q => by rw [q] at sw1; revert sw1; decide
    have n3 : ¬ k = 3 := fun q => by rw [q] at sw1; revert sw1; decide
    have n4 : ¬ k = 4 := fun q => by rw [q] at sw1; revert sw1; decide
    refine lv_bipush (v := (-2)) hx hb dX9_told_61 (by decide) ?_
    refine fw_iret X hF hS ?_ (Nat.le_of_ble_eq_true rfl) (Nat.le_of_ble_eq_true rfl) dX9_told_63
    exact ⟨by rw [← hRe]; simp [spTold, n0, n1, n2, n3, n4], hM⟩
set_option maxHeartbeats 4000000 in
set_option maxRecDepth 100000 in
theorem c_X9_sum (l : Launch) (D : va_G) (cs : Nat → ClassId) (w : fW) (sz : Nat) (am : Nat → Nat) (M : Nat → Nat → Int32) (R : aRe) (wy an : Int32) (hM : MWd cs am (M, R, wy, an) w) (sl : Nat → Nat) (T : Sg) (hR : MR sl T M) (hRe : R = tRe T) (hI : Inv T)  : gM l bs_B nw_B D cls10 (tyl cs) yX9_sum cX9_sum 1 (some .long) 0 0 0 0 w sz [.ref (am 28)] (fun v w' => v = some (.long (tRe T).2.2.2.2.2) ∧ MWd cs am (M, R, wy, an) w') := by
  refine gM.of (by decide +kernel) (Nat.le_of_ble_eq_true rfl) (fun p e s m below meth c A ls X hsz hnm hF hS hl => ?_)
  have hx := X.1
  have hb := X.2.1
  have hl : lv_has ls 1 [(0, .ref (am 28))] := hl
  refine lv_aload_n hx hb dX9_sum_0 rfl (lv_at hl 0 rfl) ?_
  refine fw_get (v := .long R.2.2.2.2.2) X gC_ok hF hM.2.1 rfl 24 (by decide) wm_503 rfl dX9_sum_1 ?_
  refine fw_lret X hF hS ?_ (Nat.le_of_ble_eq_true rfl) (Nat.le_of_ble_eq_true rfl) dX9_sum_4
  exact ⟨by rw [← hRe], hM⟩
set_option maxHeartbeats 4000000 in
set_option maxRecDepth 100000 in
theorem c_X9_tally (l : Launch) (D : va_G) (cs : Nat → ClassId) (w : fW) (sz : Nat) (am : Nat → Nat) (M : Nat → Nat → Int32) (R : aRe) (wy an : Int32) (hM : MWd cs am (M, R, wy, an) w) (sl : Nat → Nat) (T : Sg) (hR : MR sl T M) (hRe : R = tRe T) (hI : Inv T) (r : Int32) : gM l bs_B nw_B D cls10 (tyl cs) yX9_tally cX9_tally 2 (some .int) 1 25 0 0 w sz [.ref (am 28), .int r] (fun v w' => v = some (.int (spTally T r)) ∧ MWd cs am (M, R, wy, an) w') := by
  refine gM.of (by decide +kernel) (Nat.le_of_ble_eq_true rfl) (fun p e s m below meth c A ls X hsz hnm hF hS hl => ?_)
  have hx := X.1
  have hb := X.2.1
  have hl : lv_has ls 2 [(0, .ref (am 28)), (1, .int r)] := hl
  refine lv_iload_n hx hb dX9_tally_0 rfl (lv_at hl 1 rfl) ?_
  refine lv_i2l hx hb dX9_tally_1 rfl ?_
  refine lv_lconst (v := 1) hx hb dX9_tally_2 (by decide) ?_
  refine lv_ldc2 (v := 7) hx hb X.2.2.2.1 (X.2.2.2.2.1 _ wm_669) dX9_tally_3 ?_
  refine fw_callS (As := [.long r.toInt64, .long 1, .long 7]) (rest := []) X bs_all nw_all mf_X9_in (c_X9_in l D cs _ _ r.toInt64 1 7) wm_573 wm_574 hF hS rfl ((⟨⟨Nat.le_of_ble_eq_true rfl, Nat.le_of_ble_eq_true rfl⟩, Nat.le_of_ble_eq_true rfl, Nat.le_of_ble_eq_true rfl⟩)) rfl hl.1 rfl (Nat.le_of_ble_eq_true rfl) dX9_tally_6 (fun v u1 H locs hp hF hS hz1 hk1 hd1 => ?_)
  obtain ⟨rfl, hw1⟩ := hp
  rw [hw1] at hF
  refine W.eq (g2 := F0 m 9 ls [.int (bz (inn r.toInt64 1 7))]) rfl ?_
  refine gx_ifeq (tgt := 21) hx hb dX9_tally_9 (by decide) (fun c9_2 => ?_) (fun c9_2 => ?_)
  · rw [inn_17] at c9_2
    refine lv_bipush (v := (-2)) hx hb dX9_tally_21 (by decide) ?_
    refine fw_iret X hF hS ?_ (Nat.le_of_ble_eq_true rfl) (Nat.le_of_ble_eq_true rfl) dX9_tally_23
    exact ⟨by simp [spTally, c9_2], hM⟩
  · rw [inn_17] at c9_2
    have hw8 : wi r 8 = true := wi78 c9_2
    have er : r = nI (ix r) := nI_ix (wi_1 hw8)
    have hr8 : ix r < 8 := wi_lt hw8 (N := 8) (by decide)
    refine lv_aload_n hx hb dX9_tally_12 rfl (lv_at hl 0 rfl) ?_
    refine fw_get (v := .ref (am 25)) X gC_ok hF hM.2.1 rfl 25 (by decide) wm_504 rfl dX9_tally_13 ?_
    refine lv_iload_n hx hb dX9_tally_16 rfl (lv_at hl 1 rfl) ?_
    refine fw_iald X hF (hM.2.2 25 (Or.inr rfl)) 0 rfl (wi_in hw8 (N := 8) (by decide)) (v := (M 25) (ix r)) rfl dX9_tally_17 ?_
    refine lv_goto (tgt := 23) hx hb dX9_tally_18 (by decide) ?_
    refine fw_iret X hF hS ?_ (Nat.le_of_ble_eq_true rfl) (Nat.le_of_ble_eq_true rfl) dX9_tally_23
    exact ⟨by rw [hR.2.2.2.2.2.2.2.2 _ hr8]; simp [spTally, c9_2], hM⟩
set_option maxHeartbeats 4000000 in
set_option maxRecDepth 100000 in
theorem c_X9_basket (l : Launch) (D : va_G) (cs : Nat → ClassId) (w : fW) (sz : Nat) (am : Nat → Nat) (M : Nat → Nat → Int32) (R : aRe) (wy an : Int32) (hM : MWd cs am (M, R, wy, an) w) (sl : Nat → Nat) (T : Sg) (hR : MR sl T M) (hRe : R = tRe T) (hI : Inv T) (a i : Int32) : gM l bs_B nw_B D cls10 (tyl cs) yX9_basket cX9_basket 3 (some .int) 1 25 0 0 w sz [.ref (am 28), .int a, .int i] (fun v w' => v = some (.int (if wi a 4 = true then (if wi i (tBa T (ix a)).1 = true then (tBa T (ix a)).2 (ix i) else 0) else 0)) ∧ MWd cs am (M, R, wy, an) w') := by
  refine gM.of (by decide +kernel) (Nat.le_of_ble_eq_true rfl) (fun p e s m below meth c A ls X hsz hnm hF hS hl => ?_)
  have hx := X.1
  have hb := X.2.1
  have hl : lv_has ls 3 [(0, .ref (am 28)), (1, .int a), (2, .int i)] := hl
  refine lv_iload_n hx hb dX9_basket_0 rfl (lv_at hl 1 rfl) ?_
  refine lv_i2l hx hb dX9_basket_1 rfl ?_
  refine lv_lconst (v := 0) hx hb dX9_basket_2 (by decide) ?_
  refine lv_ldc2 (v := 3) hx hb X.2.2.2.1 (X.2.2.2.2.1 _ wm_576) dX9_basket_3 ?_
  refine fw_callS (As := [.long a.toInt64, .long 0, .long 3]) (rest := []) X bs_all nw_all mf_X9_in (c_X9_in l D cs _ _ a.toInt64 0 3) wm_573 wm_574 hF hS rfl ((⟨⟨Nat.le_of_ble_eq_true rfl, Nat.le_of_ble_eq_true rfl⟩, Nat.le_of_ble_eq_true rfl, Nat.le_of_ble_eq_true rfl⟩)) rfl hl.1 rfl (Nat.le_of_ble_eq_true rfl) dX9_basket_6 (fun v u1 H locs hp hF hS hz1 hk1 hd1 => ?_)
  obtain ⟨rfl, hw1⟩ := hp
  rw [hw1] at hF
  refine W.eq (g2 := F0 m 9 ls [.int (bz (inn a.toInt64 0 3))]) rfl ?_
  refine gx_ifeq (tgt := 44) hx hb dX9_basket_9 (by decide) (fun c9_2 => ?_) (fun c9_2 => ?_)
  · rw [inn_wi (n := 4) rfl] at c9_2
    refine lv_iconst (v := 0) hx hb dX9_basket_44 (by decide) ?_
    refine fw_iret X hF hS ?_ (Nat.le_of_ble_eq_true rfl) (Nat.le_of_ble_eq_true rfl) dX9_basket_45
    exact ⟨by simp [c9_2], hM⟩
  · rw [inn_wi (n := 4) rfl] at c9_2
    obtain ⟨n, hn, ea⟩ := vp_in_of (wi_in c9_2 (N := 4) (by decide)) (by decide)
    subst ea
    have hin : ix (nI n) = n := nI_clamp (by omega)
    have hl : lv_has ls 3 [(0, .ref (am 28)), (1, .int (nI n)), (2, .int i)] := hl
    refine lv_iload_n hx hb dX9_basket_12 rfl (lv_at hl 2 rfl) ?_
    refine lv_i2l hx hb dX9_basket_13 rfl ?_
    refine lv_lconst (v := 0) hx hb dX9_basket_14 (by decide) ?_
    refine lv_aload_n hx hb dX9_basket_15 rfl (lv_at hl 0 rfl) ?_
    refine fw_get (v := .ref (am 8)) X gC_ok hF hM.2.1 rfl 8 (by decide) wm_487 rfl dX9_basket_16 ?_
    refine lv_iload_n hx hb dX9_basket_19 rfl (lv_at hl 1 rfl) ?_
    refine fw_iald X hF (hM.2.2 8 (Or.inl (by decide))) 0 rfl (show vp_in (nI n) 4 from vp_in_nI (by omega) (by decide)) (v := (M 8) n) (by rw [nI_clamp (by omega)] <;> rfl) dX9_basket_20 ?_
    refine lv_iconst (v := 1) hx hb dX9_basket_21 (by decide) ?_
    refine lv_isub hx hb dX9_basket_22 ?_
    refine lv_i2l hx hb dX9_basket_23 rfl ?_
    refine fw_callS (As := [.long i.toInt64, .long 0, .long ((((M 8) n) - 1).toInt64)]) (rest := []) X bs_all nw_all mf_X9_in (c_X9_in l D cs _ _ i.toInt64 0 ((((M 8) n) - 1).toInt64)) wm_573 wm_574 hF hS rfl ((⟨⟨Nat.le_of_ble_eq_true rfl, Nat.le_of_ble_eq_true rfl⟩, Nat.le_of_ble_eq_true rfl, Nat.le_of_ble_eq_true rfl⟩)) rfl hl.1 rfl (Nat.le_of_ble_eq_true rfl) dX9_basket_24 (fun v u3 H locs hp hF hS hz1 hk1 hd1 => ?_)
    obtain ⟨rfl, hw1⟩ := hp
    rw [hw1] at hF
    refine W.eq (g2 := F0 m 27 ls [.int (bz (inn i.toInt64 0 ((((M 8) n) - 1).toInt64)))]) rfl ?_
    refine gx_ifeq (tgt := 44) hx hb dX9_basket_27 (by decide) (fun c27_4 => ?_) (fun c27_4 => ?_)
    · have hLj1 : lenI (M 8 n) := by rw [(hR.2.2.2.1 n hn).1]; exact hI.2.1 n hn
      rw [inn_len hLj1] at c27_4
      refine lv_iconst (v := 0) hx hb dX9_basket_44 (by decide) ?_
      refine fw_iret X hF hS ?_ (Nat.le_of_ble_eq_true rfl) (Nat.le_of_ble_eq_true rfl) dX9_basket_45
      rw [(hR.2.2.2.1 n hn).1] at c27_4
      exact ⟨by simp [c9_2, hin, c27_4], hM⟩
    · have hLj1 : lenI (M 8 n) := by rw [(hR.2.2.2.1 n hn).1]; exact hI.2.1 n hn
      rw [inn_len hLj1] at c27_4
      obtain ⟨j1, hj1, ej1⟩ := vp_in_of (wi_in (wi_le c27_4 hLj1.2) (N := 12) (by decide)) (by decide)
      subst ej1
      have hij1 : ix (nI j1) = j1 := nI_clamp (by omega)
      have hl : lv_has ls 3 [(0, .ref (am 28)), (1, .int (nI n)), (2, .int (nI j1))] := hl
      refine lv_aload_n hx hb dX9_basket_30 rfl (lv_at hl 0 rfl) ?_
      refine fw_get (v := .ref (am 9)) X gC_ok hF hM.2.1 rfl 9 (by decide) wm_488 rfl dX9_basket_31 ?_
      refine lv_bipush (v := 20) hx hb dX9_basket_34 (by decide) ?_
      refine lv_iload_n hx hb dX9_basket_36 rfl (lv_at hl 1 rfl) ?_
      refine lv_imul hx hb dX9_basket_37 ?_
      refine lv_iload_n hx hb dX9_basket_38 rfl (lv_at hl 2 rfl) ?_
      refine lv_iadd hx hb dX9_basket_39 ?_
      refine fw_iald X hF (hM.2.2 9 (Or.inl (by decide))) 0 rfl (show vp_in ((20 * (nI n)) + (nI j1)) 80 by rw [(show (20 * (nI n)) + (nI j1) = nI (20 * n + j1) by simp only [and_sb, and_sb1, nl1, nl2, nl3, nl4, nl5, nl16, nl20, nl400, pk_mul, nI_add])]; exact vp_in_nI (by omega) (by decide)) (v := (M 9) (20 * n + j1)) (by rw [(show (20 * (nI n)) + (nI j1) = nI (20 * n + j1) by simp only [and_sb, and_sb1, nl1, nl2, nl3, nl4, nl5, nl16, nl20, nl400, pk_mul, nI_add]), nI_clamp (by omega)] <;> rfl) dX9_basket_40 ?_
      refine lv_goto (tgt := 45) hx hb dX9_basket_41 (by decide) ?_
      refine fw_iret X hF hS ?_ (Nat.le_of_ble_eq_true rfl) (Nat.le_of_ble_eq_true rfl) dX9_basket_45
      rw [(hR.2.2.2.1 n hn).1] at c27_4
      exact ⟨by rw [if_pos c9_2, hin, if_pos c27_4, hij1, (hR.2.2.2.1 n hn).2 j1 (by omega)], hM⟩
set_option maxHeartbeats 4000000 in
set_option maxRecDepth 100000 in
theorem c_X9_grid (l : Launch) (D : va_G) (cs : Nat → ClassId) (w : fW) (sz : Nat) (am : Nat → Nat) (M : Nat → Nat → Int32) (R : aRe) (wy an : Int32) (hM : MWd cs am (M, R, wy, an) w) (sl : Nat → Nat) (T : Sg) (hR : MR sl T M) (hRe : R = tRe T) (hI : Inv T) (a i j : Int32) : gM l bs_B nw_B D cls10 (tyl cs) yX9_grid cX9_grid 4 (some .int) 1 25 0 0 w sz [.ref (am 28), .int a, .int i, .int j] (fun v w' => v = some (.int (if wi a 4 = true then (if (wi i (tGr T (ix a)).1 && wi j (tGr T (ix a)).2.1) = true then (tGr T (ix a)).2.2 (12 * ix i + ix j) else 0) else 0)) ∧ MWd cs am (M, R, wy, an) w') := by
  refine gM.of (by decide +kernel) (Nat.le_of_ble_eq_true rfl) (fun p e s m below meth c A ls X hsz hnm hF hS hl => ?_)
  have hx := X.1
  have hb := X.2.1
  have hl : lv_has ls 4 [(0, .ref (am 28)), (1, .int a), (2, .int i), (3, .int j)] := hl
  refine lv_iload_n hx hb dX9_grid_0 rfl (lv_at hl 1 rfl) ?_
  refine lv_i2l hx hb dX9_grid_1 rfl ?_
  refine lv_lconst (v := 0) hx hb dX9_grid_2 (by decide) ?_
  refine lv_ldc2 (v := 3) hx hb X.2.2.2.1 (X.2.2.2.2.1 _ wm_576) dX9_grid_3 ?_
  refine fw_callS (As := [.long a.toInt64, .long 0, .long 3]) (rest := []) X bs_all nw_all mf_X9_in (c_X9_in l D cs _ _ a.toInt64 0 3) wm_573 wm_574 hF hS rfl ((⟨⟨Nat.le_of_ble_eq_true rfl, Nat.le_of_ble_eq_true rfl⟩, Nat.le_of_ble_eq_true rfl, Nat.le_of_ble_eq_true rfl⟩)) rfl hl.1 rfl (Nat.le_of_ble_eq_true rfl) dX9_grid_6 (fun v u1 H locs hp hF hS hz1 hk1 hd1 => ?_)
  obtain ⟨rfl, hw1⟩ := hp
  rw [hw1] at hF
  refine W.eq (g2 := F0 m 9 ls [.int (bz (inn a.toInt64 0 3))]) rfl ?_
  refine gx_ifeq (tgt := 68) hx hb dX9_grid_9 (by decide) (fun c9_2 => ?_) (fun c9_2 => ?_)
  · rw [inn_wi (n := 4) rfl] at c9_2
    refine lv_iconst (v := 0) hx hb dX9_grid_68 (by decide) ?_
    refine fw_iret X hF hS ?_ (Nat.le_of_ble_eq_true rfl) (Nat.le_of_ble_eq_true rfl) dX9_grid_69
    exact ⟨by simp [c9_2], hM⟩
  · rw [inn_wi (n := 4) rfl] at c9_2
    obtain ⟨n, hn, ea⟩ := vp_in_of (wi_in c9_2 (N := 4) (by decide)) (by decide)
    subst ea
    have hin : ix (nI n) = n := nI_clamp (by omega)
    have hl : lv_has ls 4 [(0, .ref (am 28)), (1, .int (nI n)), (2, .int i), (3, .int j)] := hl
    refine lv_iload_n hx hb dX9_grid_12 rfl (lv_at hl 2 rfl) ?_
    refine lv_i2l hx hb dX9_grid_13 rfl ?_
    refine lv_lconst (v := 0) hx hb dX9_grid_14 (by decide) ?_
    refine lv_aload_n hx hb dX9_grid_15 rfl (lv_at hl 0 rfl) ?_
    refine fw_get (v := .ref (am 13)) X gC_ok hF hM.2.1 rfl 13 (by decide) wm_492 rfl dX9_grid_16 ?_
    refine lv_iload_n hx hb dX9_grid_19 rfl (lv_at hl 1 rfl) ?_
    refine fw_iald X hF (hM.2.2 13 (Or.inl (by decide))) 0 rfl (show vp_in (nI n) 4 from vp_in_nI (by omega) (by decide)) (v := (M 13) n) (by rw [nI_clamp (by omega)] <;> rfl) dX9_grid_20 ?_
    refine lv_iconst (v := 1) hx hb dX9_grid_21 (by decide) ?_
    refine lv_isub hx hb dX9_grid_22 ?_
    refine lv_i2l hx hb dX9_grid_23 rfl ?_
    refine fw_callS (As := [.long i.toInt64, .long 0, .long ((((M 13) n) - 1).toInt64)]) (rest := []) X bs_all nw_all mf_X9_in (c_X9_in l D cs _ _ i.toInt64 0 ((((M 13) n) - 1).toInt64)) wm_573 wm_574 hF hS rfl ((⟨⟨Nat.le_of_ble_eq_true rfl, Nat.le_of_ble_eq_true rfl⟩, Nat.le_of_ble_eq_true rfl, Nat.le_of_ble_eq_true rfl⟩)) rfl hl.1 rfl (Nat.le_of_ble_eq_true rfl) dX9_grid_24 (fun v u3 H locs hp hF hS hz1 hk1 hd1 => ?_)
    obtain ⟨rfl, hw1⟩ := hp
    rw [hw1] at hF
    refine W.eq (g2 := F0 m 27 ls [.int (bz (inn i.toInt64 0 ((((M 13) n) - 1).toInt64)))]) rfl ?_
    refine gx_ifeq (tgt := 68) hx hb dX9_grid_27 (by decide) (fun c27_4 => ?_) (fun c27_4 => ?_)
    · have hLj1 : lenI (M 13 n) := by rw [(hR.2.2.2.2.2.1 n hn).1]; exact (hI.2.2.2.1 n hn).1
      rw [inn_len hLj1] at c27_4
      refine lv_iconst (v := 0) hx hb dX9_grid_68 (by decide) ?_
      refine fw_iret X hF hS ?_ (Nat.le_of_ble_eq_true rfl) (Nat.le_of_ble_eq_true rfl) dX9_grid_69
      rw [(hR.2.2.2.2.2.1 n hn).1] at c27_4
      exact ⟨by simp [c9_2, hin, c27_4], hM⟩
    · have hLj1 : lenI (M 13 n) := by rw [(hR.2.2.2.2.2.1 n hn).1]; exact (hI.2.2.2.1 n hn).1
      rw [inn_len hLj1] at c27_4
      obtain ⟨j1, hj1, ej1⟩ := vp_in_of (wi_in (wi_le c27_4 hLj1.2) (N := 12) (by decide)) (by decide)
      subst ej1
      have hij1 : ix (nI j1) = j1 := nI_clamp (by omega)
      have hl : lv_has ls 4 [(0, .ref (am 28)), (1, .int (nI n)), (2, .int (nI j1)), (3, .int j)] := hl
      refine lv_iload_n hx hb dX9_grid_30 rfl (lv_at hl 3 rfl) ?_
      refine lv_i2l hx hb dX9_grid_31 rfl ?_
      refine lv_lconst (v := 0) hx hb dX9_grid_32 (by decide) ?_
      refine lv_aload_n hx hb dX9_grid_33 rfl (lv_at hl 0 rfl) ?_
      refine fw_get (v := .ref (am 14)) X gC_ok hF hM.2.1 rfl 14 (by decide) wm_493 rfl dX9_grid_34 ?_
      refine lv_iload_n hx hb dX9_grid_37 rfl (lv_at hl 1 rfl) ?_
      refine fw_iald X hF (hM.2.2 14 (Or.inl (by decide))) 0 rfl (show vp_in (nI n) 4 from vp_in_nI (by omega) (by decide)) (v := (M 14) n) (by rw [nI_clamp (by omega)] <;> rfl) dX9_grid_38 ?_
      refine lv_iconst (v := 1) hx hb dX9_grid_39 (by decide) ?_
      refine lv_isub hx hb dX9_grid_40 ?_
      refine lv_i2l hx hb dX9_grid_41 rfl ?_
      refine fw_callS (As := [.long j.toInt64, .long 0, .long ((((M 14) n) - 1).toInt64)]) (rest := []) X bs_all nw_all mf_X9_in (c_X9_in l D cs _ _ j.toInt64 0 ((((M 14) n) - 1).toInt64)) wm_573 wm_574 hF hS rfl ((⟨⟨Nat.le_of_ble_eq_true rfl, Nat.le_of_ble_eq_true rfl⟩, Nat.le_of_ble_eq_true rfl, Nat.le_of_ble_eq_true rfl⟩)) rfl hl.1 rfl (Nat.le_of_ble_eq_true rfl) dX9_grid_42 (fun v u5 H locs hp hF hS hz1 hk1 hd1 => ?_)
      obtain ⟨rfl, hw1⟩ := hp
      rw [hw1] at hF
      refine W.eq (g2 := F0 m 45 ls [.int (bz (inn j.toInt64 0 ((((M 14) n) - 1).toInt64)))]) rfl ?_
      refine gx_ifeq (tgt := 68) hx hb dX9_grid_45 (by decide) (fun c45_6 => ?_) (fun c45_6 => ?_)
      · have hLj2 : lenI (M 14 n) := by rw [(hR.2.2.2.2.2.1 n hn).2.1]; exact lenI.of (i_nlt.mpr (hI.2.2.2.1 n hn).2.1) (hI.2.2.2.1 n hn).2.2
        rw [inn_len hLj2] at c45_6
        refine lv_iconst (v := 0) hx hb dX9_grid_68 (by decide) ?_
        refine fw_iret X hF hS ?_ (Nat.le_of_ble_eq_true rfl) (Nat.le_of_ble_eq_true rfl) dX9_grid_69
        rw [(hR.2.2.2.2.2.1 n hn).1] at c27_4
        rw [(hR.2.2.2.2.2.1 n hn).2.1] at c45_6
        exact ⟨by simp [c9_2, hin, c27_4, c45_6], hM⟩
      · have hLj2 : lenI (M 14 n) := by rw [(hR.2.2.2.2.2.1 n hn).2.1]; exact lenI.of (i_nlt.mpr (hI.2.2.2.1 n hn).2.1) (hI.2.2.2.1 n hn).2.2
        rw [inn_len hLj2] at c45_6
        obtain ⟨j2, hj2, ej2⟩ := vp_in_of (wi_in (wi_le c45_6 hLj2.2) (N := 12) (by decide)) (by decide)
        subst ej2
        have hij2 : ix (nI j2) = j2 := nI_clamp (by omega)
        have hl : lv_has ls 4 [(0, .ref (am 28)), (1, .int (nI n)), (2, .int (nI j1)), (3, .int (nI j2))] := hl
        refine lv_aload_n hx hb dX9_grid_48 rfl (lv_at hl 0 rfl) ?_
        refine fw_get (v := .ref (am 15)) X gC_ok hF hM.2.1 rfl 15 (by decide) wm_494 rfl dX9_grid_49 ?_
        refine lv_sipush (v := 400) hx hb dX9_grid_52 (by decide) ?_
        refine lv_iload_n hx hb dX9_grid_55 rfl (lv_at hl 1 rfl) ?_
        refine lv_imul hx hb dX9_grid_56 ?_
        refine lv_bipush (v := 20) hx hb dX9_grid_57 (by decide) ?_
        refine lv_iload_n hx hb dX9_grid_59 rfl (lv_at hl 2 rfl) ?_
        refine lv_imul hx hb dX9_grid_60 ?_
        refine lv_iadd hx hb dX9_grid_61 ?_
        refine lv_iload_n hx hb dX9_grid_62 rfl (lv_at hl 3 rfl) ?_
        refine lv_iadd hx hb dX9_grid_63 ?_
        refine fw_iald X hF (hM.2.2 15 (Or.inl (by decide))) 0 rfl (show vp_in (((400 * (nI n)) + (20 * (nI j1))) + (nI j2)) 1600 by rw [(show ((400 * (nI n)) + (20 * (nI j1))) + (nI j2) = nI (400 * n + 20 * j1 + j2) by simp only [and_sb, and_sb1, nl1, nl2, nl3, nl4, nl5, nl16, nl20, nl400, pk_mul, nI_add])]; exact vp_in_nI (by omega) (by decide)) (v := (M 15) (400 * n + 20 * j1 + j2)) (by rw [(show ((400 * (nI n)) + (20 * (nI j1))) + (nI j2) = nI (400 * n + 20 * j1 + j2) by simp only [and_sb, and_sb1, nl1, nl2, nl3, nl4, nl5, nl16, nl20, nl400, pk_mul, nI_add]), nI_clamp (by omega)] <;> rfl) dX9_grid_64 ?_
        refine lv_goto (tgt := 69) hx hb dX9_grid_65 (by decide) ?_
        refine fw_iret X hF hS ?_ (Nat.le_of_ble_eq_true rfl) (Nat.le_of_ble_eq_true rfl) dX9_grid_69
        rw [(hR.2.2.2.2.2.1 n hn).1] at c27_4
        rw [(hR.2.2.2.2.2.1 n hn).2.1] at c45_6
        exact ⟨by rw [if_pos c9_2, hin, if_pos (by rw [c27_4, c45_6]; rfl), hij1, hij2, (hR.2.2.2.2.2.1 n hn).2.2 j1 j2 (by omega) (by omega)], hM⟩
set_option maxHeartbeats 4000000 in
set_option maxRecDepth 100000 in
theorem c_X9_rack (l : Launch) (D : va_G) (cs : Nat → ClassId) (w : fW) (sz : Nat) (am : Nat → Nat) (M : Nat → Nat → Int32) (R : aRe) (wy an : Int32) (hM : MWd cs am (M, R, wy, an) w) (sl : Nat → Nat) (T : Sg) (hR : MR sl T M) (hRe : R = tRe T) (hI : Inv T) (a i : Int32) : gM l bs_B nw_B D cls10 (tyl cs) yX9_rack cX9_rack 4 (some .int) 1 25 0 0 w sz [.ref (am 28), .int a, .int i] (fun v w' => v = some (.int (spRack T a i)) ∧ MWd cs am (M, R, wy, an) w') := by
  refine gM.of (by decide +kernel) (Nat.le_of_ble_eq_true rfl) (fun p e s m below meth c A ls X hsz hnm hF hS hl => ?_)
  have hx := X.1
  have hb := X.2.1
  have hl : lv_has ls 4 [(0, .ref (am 28)), (1, .int a), (2, .int i)] := hl
  refine lv_iload_n hx hb dX9_rack_0 rfl (lv_at hl 1 rfl) ?_
  refine lv_i2l hx hb dX9_rack_1 rfl ?_
  refine lv_lconst (v := 0) hx hb dX9_rack_2 (by decide) ?_
  refine lv_ldc2 (v := 3) hx hb X.2.2.2.1 (X.2.2.2.2.1 _ wm_576) dX9_rack_3 ?_
  refine fw_callS (As := [.long a.toInt64, .long 0, .long 3]) (rest := []) X bs_all nw_all mf_X9_in (c_X9_in l D cs _ _ a.toInt64 0 3) wm_573 wm_574 hF hS rfl ((⟨⟨Nat.le_of_ble_eq_true rfl, Nat.le_of_ble_eq_true rfl⟩, Nat.le_of_ble_eq_true rfl, Nat.le_of_ble_eq_true rfl⟩)) rfl hl.1 rfl (Nat.le_of_ble_eq_true rfl) dX9_rack_6 (fun v u1 H locs hp hF hS hz1 hk1 hd1 => ?_)
  obtain ⟨rfl, hw1⟩ := hp
  rw [hw1] at hF
  refine W.eq (g2 := F0 m 9 ls [.int (bz (inn a.toInt64 0 3))]) rfl ?_
  refine gx_ifeq (tgt := 44) hx hb dX9_rack_9 (by decide) (fun c9_2 => ?_) (fun c9_2 => ?_)
  · rw [inn_wi (n := 4) rfl] at c9_2
    refine lv_iconst (v := (-1)) hx hb dX9_rack_44 (by decide) ?_
    refine lv_istore_n (lv' := [(3, .int (-1)), (0, .ref (am 28)), (1, .int a), (2, .int i)]) hx hb dX9_rack_45 rfl hl (by decide) rfl (fun ls hl => ?_)
    refine lv_iload_n hx hb dX9_rack_46 rfl (lv_at hl 0 rfl) ?_
    refine lv_iconst (v := (-1)) hx hb dX9_rack_47 (by decide) ?_
    refine lv_icmp_ne (tgt := 56) hx hb dX9_rack_48 (by decide) (fun h => absurd h (by decide)) (fun _ => ?_)
    refine lv_ldc (v := (-2147483648)) hx hb X.2.2.2.1 (X.2.2.2.2.1 _ wm_674) dX9_rack_51 ?_
    refine lv_goto (tgt := 79) hx hb dX9_rack_53 (by decide) ?_
    refine fw_iret X hF hS ?_ (Nat.le_of_ble_eq_true rfl) (Nat.le_of_ble_eq_true rfl) dX9_rack_79
    refine ⟨?_, hM⟩
    unfold spRack
    simp [c9_2]
  · rw [inn_wi (n := 4) rfl] at c9_2
    obtain ⟨n, hn, ea⟩ := vp_in_of (wi_in c9_2 (N := 4) (by decide)) (by decide)
    subst ea
    have hin : ix (nI n) = n := nI_clamp (by omega)
    have hl : lv_has ls 4 [(0, .ref (am 28)), (1, .int (nI n)), (2, .int i)] := hl
    refine lv_iload_n hx hb dX9_rack_12 rfl (lv_at hl 2 rfl) ?_
    refine lv_i2l hx hb dX9_rack_13 rfl ?_
    refine lv_lconst (v := 0) hx hb dX9_rack_14 (by decide) ?_
    refine lv_aload_n hx hb dX9_rack_15 rfl (lv_at hl 0 rfl) ?_
    refine fw_get (v := .ref (am 10)) X gC_ok hF hM.2.1 rfl 10 (by decide) wm_489 rfl dX9_rack_16 ?_
    refine lv_iload_n hx hb dX9_rack_19 rfl (lv_at hl 1 rfl) ?_
    refine fw_iald X hF (hM.2.2 10 (Or.inl (by decide))) 0 rfl (show vp_in (nI n) 4 from vp_in_nI (by omega) (by decide)) (v := (M 10) n) (by rw [nI_clamp (by omega)] <;> rfl) dX9_rack_20 ?_
    refine lv_iconst (v := 1) hx hb dX9_rack_21 (by decide) ?_
    refine lv_isub hx hb dX9_rack_22 ?_
    refine lv_i2l hx hb dX9_rack_23 rfl ?_
    refine fw_callS (As := [.long i.toInt64, .long 0, .long ((((M 10) n) - 1).toInt64)]) (rest := []) X bs_all nw_all mf_X9_in (c_X9_in l D cs _ _ i.toInt64 0 ((((M 10) n) - 1).toInt64)) wm_573 wm_574 hF hS rfl ((⟨⟨Nat.le_of_ble_eq_true rfl, Nat.le_of_ble_eq_true rfl⟩, Nat.le_of_ble_eq_true rfl, Nat.le_of_ble_eq_true rfl⟩)) rfl hl.1 rfl (Nat.le_of_ble_eq_true rfl) dX9_rack_24 (fun v u4 H locs hp hF hS hz1 hk1 hd1 => ?_)
    obtain ⟨rfl, hw1⟩ := hp
    rw [hw1] at hF
    refine W.eq (g2 := F0 m 27 ls [.int (bz (inn i.toInt64 0 ((((M 10) n) - 1).toInt64)))]) rfl ?_
    refine gx_ifeq (tgt := 44) hx hb dX9_rack_27 (by decide) (fun c27_5 => ?_) (fun c27_5 => ?_)
    · have hLj1 : lenI (M 10 n) := by rw [(hR.2.2.2.2.1 n hn).1]; exact (hI.2.2.1 n hn).1
      rw [inn_len hLj1] at c27_5
      refine lv_iconst (v := (-1)) hx hb dX9_rack_44 (by decide) ?_
      refine lv_istore_n (lv' := [(3, .int (-1)), (0, .ref (am 28)), (1, .int (nI n)), (2, .int i)]) hx hb dX9_rack_45 rfl hl (by decide) rfl (fun ls hl => ?_)
      refine lv_iload_n hx hb dX9_rack_46 rfl (lv_at hl 0 rfl) ?_
      refine lv_iconst (v := (-1)) hx hb dX9_rack_47 (by decide) ?_
      refine lv_icmp_ne (tgt := 56) hx hb dX9_rack_48 (by decide) (fun h => absurd h (by decide)) (fun _ => ?_)
      refine lv_ldc (v := (-2147483648)) hx hb X.2.2.2.1 (X.2.2.2.2.1 _ wm_674) dX9_rack_51 ?_
      refine lv_goto (tgt := 79) hx hb dX9_rack_53 (by decide) ?_
      refine fw_iret X hF hS ?_ (Nat.le_of_ble_eq_true rfl) (Nat.le_of_ble_eq_true rfl) dX9_rack_79
      rw [(hR.2.2.2.2.1 n hn).1] at c27_5
      refine ⟨?_, hM⟩
      unfold spRack
      rw [if_pos c9_2, hin, if_neg (by rw [c27_5]; decide)]
    · have hLj1 : lenI (M 10 n) := by rw [(hR.2.2.2.2.1 n hn).1]; exact (hI.2.2.1 n hn).1
      rw [inn_len hLj1] at c27_5
      obtain ⟨j1, hj1, ej1⟩ := vp_in_of (wi_in (wi_le c27_5 hLj1.2) (N := 12) (by decide)) (by decide)
      subst ej1
      have hij1 : ix (nI j1) = j1 := nI_clamp (by omega)
      have hl : lv_has ls 4 [(0, .ref (am 28)), (1, .int (nI n)), (2, .int (nI j1))] := hl
      refine lv_aload_n hx hb dX9_rack_30 rfl (lv_at hl 0 rfl) ?_
      refine fw_get (v := .ref (am 12)) X gC_ok hF hM.2.1 rfl 12 (by decide) wm_491 rfl dX9_rack_31 ?_
      refine lv_bipush (v := 20) hx hb dX9_rack_34 (by decide) ?_
      refine lv_iload_n hx hb dX9_rack_36 rfl (lv_at hl 1 rfl) ?_
      refine lv_imul hx hb dX9_rack_37 ?_
      refine lv_iload_n hx hb dX9_rack_38 rfl (lv_at hl 2 rfl) ?_
      refine lv_iadd hx hb dX9_rack_39 ?_
      refine fw_iald X hF (hM.2.2 12 (Or.inl (by decide))) 0 rfl (show vp_in ((20 * (nI n)) + (nI j1)) 80 by rw [(show (20 * (nI n)) + (nI j1) = nI (20 * n + j1) by simp only [and_sb, and_sb1, nl1, nl2, nl3, nl4, nl5, nl16, nl20, nl400, pk_mul, nI_add])]; exact vp_in_nI (by omega) (by decide)) (v := (M 12) (20 * n + j1)) (by rw [(show (20 * (nI n)) + (nI j1) = nI (20 * n + j1) by simp only [and_sb, and_sb1, nl1, nl2, nl3, nl4, nl5, nl16, nl20, nl400, pk_mul, nI_add]), nI_clamp (by omega)] <;> rfl) dX9_rack_40 ?_
      refine lv_goto (tgt := 45) hx hb dX9_rack_41 (by decide) ?_
      refine lv_istore_n (lv' := [(3, .int ((M 12) (20 * n + j1))), (0, .ref (am 28)), (1, .int (nI n)), (2, .int (nI j1))]) hx hb dX9_rack_45 rfl hl (by decide) rfl (fun ls hl => ?_)
      refine lv_iload_n hx hb dX9_rack_46 rfl (lv_at hl 0 rfl) ?_
      refine lv_iconst (v := (-1)) hx hb dX9_rack_47 (by decide) ?_
      refine lv_icmp_ne (tgt := 56) hx hb dX9_rack_48 (by decide) (fun c48_7 => ?_) (fun c48_7 => ?_)
      · rw [(hR.2.2.2.2.1 n hn).1] at c27_5
        have hjb : j1 < ix (tRa T n).1 := by have := ix_lt c27_5; omega
        have hml := (hR.2.2.2.2.1 n hn).2.2 j1 hjb
        obtain ⟨s9, hs9, es9⟩ := hR.slot (fun r z => Or.inr ⟨n, j1, hn, hjb, z⟩) hml c48_7
        obtain ⟨r9, e1, hl9, e3⟩ := hR.slotq (fun r z => Or.inr ⟨n, j1, hn, hjb, z⟩) hml hs9 es9
        obtain ⟨p0, p1, p2⟩ := (hR.2.1 r9 hl9).2
        refine lv_aload_n hx hb dX9_rack_56 rfl (lv_at hl 1 rfl) ?_
        refine fw_get (v := .ref (am 5)) X gC_ok hF hM.2.1 rfl 5 (by decide) wm_484 rfl dX9_rack_57 ?_
        refine lv_iload_n hx hb dX9_rack_60 rfl (lv_at hl 0 rfl) ?_
        refine fw_iald X hF (hM.2.2 5 (Or.inl (by decide))) 0 rfl (show vp_in ((M 12) (20 * n + j1)) 100 by rw [es9]; exact vp_in_nI (by omega) (by decide)) (v := (M 5) s9) (by rw [es9, nI_clamp (by omega)] <;> rfl) dX9_rack_61 ?_
        refine lv_aload_n hx hb dX9_rack_62 rfl (lv_at hl 1 rfl) ?_
        refine fw_get (v := .ref (am 7)) X gC_ok hF hM.2.1 rfl 7 (by decide) wm_486 rfl dX9_rack_63 ?_
        refine lv_iload_n hx hb dX9_rack_66 rfl (lv_at hl 0 rfl) ?_
        refine fw_zald X hF (hM.2.2 7 (Or.inl (by decide))) 1 rfl (show vp_in ((M 12) (20 * n + j1)) 100 by rw [es9]; exact vp_in_nI (by omega) (by decide)) (v := (M 7) s9) (by rw [es9, nI_clamp (by omega)] <;> rfl) dX9_rack_67 ?_
        refine lv_if_eq (tgt := 77) hx hb dX9_rack_68 (by decide) (fun c68_8 => ?_) (fun c68_8 => ?_)
        · refine lv_iconst (v := 0) hx hb dX9_rack_77 (by decide) ?_
          refine lv_iadd hx hb dX9_rack_78 ?_
          refine fw_iret X hF hS ?_ (Nat.le_of_ble_eq_true rfl) (Nat.le_of_ble_eq_true rfl) dX9_rack_79
          subst e3
          refine ⟨?_, hM⟩
          unfold spRack
          rw [if_pos c9_2, hin, if_pos c27_5, hij1, e1, p0]
          rw [p2] at c68_8
          simp only [whL]
          first | rw [bz_0.mp c68_8] | rw [gx_bz1 c68_8]
          simp [Int32.add_comm]
        · refine lv_sipush (v := 1000) hx hb dX9_rack_71 (by decide) ?_
          refine lv_goto (tgt := 78) hx hb dX9_rack_74 (by decide) ?_
          refine lv_iadd hx hb dX9_rack_78 ?_
          refine fw_iret X hF hS ?_ (Nat.le_of_ble_eq_true rfl) (Nat.le_of_ble_eq_true rfl) dX9_rack_79
          subst e3
          refine ⟨?_, hM⟩
          unfold spRack
          rw [if_pos c9_2, hin, if_pos c27_5, hij1, e1, p0]
          rw [p2] at c68_8
          simp only [whL]
          first | rw [bz_0.mp c68_8] | rw [gx_bz1 c68_8]
          simp [Int32.add_comm]
      · rw [(hR.2.2.2.2.1 n hn).1] at c27_5
        have hjb : j1 < ix (tRa T n).1 := by have := ix_lt c27_5; omega
        have hml := (hR.2.2.2.2.1 n hn).2.2 j1 hjb
        have z0 : (tRa T n).2.2 j1 = none := (slI_1 hR (fun r z => Or.inr ⟨n, j1, hn, hjb, z⟩)).mp (hml.symm.trans c48_7)
        refine lv_ldc (v := (-2147483648)) hx hb X.2.2.2.1 (X.2.2.2.2.1 _ wm_674) dX9_rack_51 ?_
        refine lv_goto (tgt := 79) hx hb dX9_rack_53 (by decide) ?_
        refine fw_iret X hF hS ?_ (Nat.le_of_ble_eq_true rfl) (Nat.le_of_ble_eq_true rfl) dX9_rack_79
        refine ⟨?_, hM⟩
        unfold spRack
        rw [if_pos c9_2, hin, if_pos c27_5, hij1, z0]
set_option maxHeartbeats 4000000 in
set_option maxRecDepth 100000 in
theorem c_X9_hangs (l : Launch) (D : va_G) (cs : Nat → ClassId) (w : fW) (sz : Nat) (am : Nat → Nat) (M : Nat → Nat → Int32) (R : aRe) (wy an : Int32) (hM : MWd cs am (M, R, wy, an) w) (x : Int32) : gM l bs_B nw_B D cls10 (tyl cs) yX9_hangs cX9_hangs 4 (some .boolean) 0 0 0 0 w sz [.ref (am 28), .int x] (fun v w' => v = some (.int (bz (hgM M x 80))) ∧ MWd cs am (M, R, wy, an) w') := by
  refine gM.of (by decide +kernel) (Nat.le_of_ble_eq_true rfl) (fun p e s m below meth c A ls X hsz hnm hF hS hl => ?_)
  have hx := X.1
  have hb := X.2.1
  have loop : ∀ (n9 i : Nat), i + n9 = 80 → ∀ (ls : Array Slot), lv_has ls 4 [(0, .ref (am 28)), (1, .int x), (2, .int (bz (hgM M x i))), (3, .int (nI i))] → W p l e ({ frames := 0, cells := 0, slots := 0, locals := 0 } : Room) s m ([.ref (am 28), .int x] : List Value).toArray below meth c s.heap [] 0 0 (MQ below (gQ D cls10 A (fun v w' => v = some (.int (bz (hgM M x 80))) ∧ MWd cs am (M, R, wy, an) w')) ([.ref (am 28), .int x] : List Value).toArray s 0 0 A) (F0 m 4 ls []) := by
    intro n9
    induction n9 with
    | zero =>
      intro i hi ls hl
      refine lv_iload_n hx hb dX9_hangs_4 rfl (lv_at hl 3 rfl) ?_
      refine lv_bipush (v := 80) hx hb dX9_hangs_5 (by decide) ?_
      refine lv_icmp_ge (tgt := 57) hx hb dX9_hangs_7 (by decide) (fun c7_1 => ?_) (fun c7_1 => ?_)
      · refine lv_iload_n hx hb dX9_hangs_57 rfl (lv_at hl 2 rfl) ?_
        refine fw_zret X hF hS (gx_nbz _) ?_ (Nat.le_of_ble_eq_true rfl) (Nat.le_of_ble_eq_true rfl) dX9_hangs_58
        rw [show i = 80 by omega]
        exact ⟨rfl, hM⟩
      · exact absurd (show nI 80 ≤ nI i from nI_le (by omega) (by omega)) c7_1
    | succ n9 ih =>
      intro i hi ls hl
      have ed : nI i / 20 = nI (i / 20) := pk_div (d := 20) (by omega) (by decide) (by decide)
      have er : nI i - nI i / 20 * 20 = nI (i % 20) := pk_rem (d := 20) (by omega) (by decide) (by decide)
      have hq20 : i / 20 < 4 := by omega
      refine lv_iload_n hx hb dX9_hangs_4 rfl (lv_at hl 3 rfl) ?_
      refine lv_bipush (v := 80) hx hb dX9_hangs_5 (by decide) ?_
      refine lv_icmp_ge (tgt := 57) hx hb dX9_hangs_7 (by decide) (fun c7_1 => ?_) (fun c7_1 => ?_)
      · exact absurd (show nI 80 ≤ nI i from c7_1) (nI_ge (by omega) (by decide))
      · refine lv_iload_n hx hb dX9_hangs_10 rfl (lv_at hl 2 rfl) ?_
        refine gx_ifne (tgt := 45) hx hb dX9_hangs_11 (by decide) (fun c11_2 => ?_) (fun c11_2 => ?_)
        · refine lv_iconst (v := 1) hx hb dX9_hangs_45 (by decide) ?_
          refine lv_goto (tgt := 50) hx hb dX9_hangs_46 (by decide) ?_
          refine lv_istore_n (lv' := [(2, .int 1), (0, .ref (am 28)), (1, .int x), (3, .int (nI i))]) hx hb dX9_hangs_50 rfl hl (by decide) rfl (fun ls hl => ?_)
          refine lv_iinc (v := nI (i + 1)) (lv' := [(3, .int (nI (i + 1))), (2, .int 1), (0, .ref (am 28)), (1, .int x)]) hx hb dX9_hangs_51 hl (k := 3) rfl (nI_1 i) (by decide) rfl (fun ls hl => ?_)
          refine lv_goto (tgt := 4) hx hb dX9_hangs_54 (by decide) ?_
          have e9 : 1 = bz (hgM M x (i + 1)) := by rw [show hgM M x (i + 1) = true by simp [hgM, c11_2]]; rfl
          rw [e9] at hl
          exact ih (i + 1) (by omega) ls (lv_sub hl [2, 3, 1, 0] rfl)
        · refine lv_iload_n hx hb dX9_hangs_14 rfl (lv_at hl 1 rfl) ?_
          refine lv_iconst (v := (-1)) hx hb dX9_hangs_15 (by decide) ?_
          refine lv_icmp_eq (tgt := 49) hx hb dX9_hangs_16 (by decide) (fun c16_3 => ?_) (fun c16_3 => ?_)
          · refine lv_iconst (v := 0) hx hb dX9_hangs_49 (by decide) ?_
            refine lv_istore_n (lv' := [(2, .int 0), (0, .ref (am 28)), (1, .int x), (3, .int (nI i))]) hx hb dX9_hangs_50 rfl hl (by decide) rfl (fun ls hl => ?_)
            refine lv_iinc (v := nI (i + 1)) (lv' := [(3, .int (nI (i + 1))), (2, .int 0), (0, .ref (am 28)), (1, .int x)]) hx hb dX9_hangs_51 hl (k := 3) rfl (nI_1 i) (by decide) rfl (fun ls hl => ?_)
            refine lv_goto (tgt := 4) hx hb dX9_hangs_54 (by decide) ?_
            have e9 : 0 = bz (hgM M x (i + 1)) := by rw [show hgM M x (i + 1) = false by simp [hgM, c11_2, (decide_eq_true c16_3)]]; rfl
            rw [e9] at hl
            exact ih (i + 1) (by omega) ls (lv_sub hl [2, 3, 1, 0] rfl)
          · refine lv_aload_n hx hb dX9_hangs_19 rfl (lv_at hl 0 rfl) ?_
            refine fw_get (v := .ref (am 10)) X gC_ok hF hM.2.1 rfl 10 (by decide) wm_489 rfl dX9_hangs_20 ?_
            refine lv_iload_n hx hb dX9_hangs_23 rfl (lv_at hl 3 rfl) ?_
            refine lv_bipush (v := 20) hx hb dX9_hangs_24 (by decide) ?_
            refine lv_idiv hx hb dX9_hangs_26 (by decide) ?_
            refine fw_iald X hF (hM.2.2 10 (Or.inl (by decide))) 0 rfl (show vp_in ((nI i) / 20) 4 by rw [ed]; exact vp_in_nI (by omega) (by decide)) (v := (M 10) (i / 20)) (by rw [ed, nI_clamp (by omega)] <;> rfl) dX9_hangs_27 ?_
            refine lv_iload_n hx hb dX9_hangs_28 rfl (lv_at hl 3 rfl) ?_
            refine lv_bipush (v := 20) hx hb dX9_hangs_29 (by decide) ?_
            refine lv_irem hx hb dX9_hangs_31 (by decide) ?_
            refine lv_icmp_le (tgt := 49) hx hb dX9_hangs_32 (by decide) (fun c32_4 => ?_) (fun c32_4 => ?_)
            · refine lv_iconst (v := 0) hx hb dX9_hangs_49 (by decide) ?_
              refine lv_istore_n (lv' := [(2, .int 0), (0, .ref (am 28)), (1, .int x), (3, .int (nI i))]) hx hb dX9_hangs_50 rfl hl (by decide) rfl (fun ls hl => ?_)
              refine lv_iinc (v := nI (i + 1)) (lv' := [(3, .int (nI (i + 1))), (2, .int 0), (0, .ref (am 28)), (1, .int x)]) hx hb dX9_hangs_51 hl (k := 3) rfl (nI_1 i) (by decide) rfl (fun ls hl => ?_)
              refine lv_goto (tgt := 4) hx hb dX9_hangs_54 (by decide) ?_
              rw [er] at c32_4
              have gc32_4 := i_nlt.mpr c32_4
              have e9 : 0 = bz (hgM M x (i + 1)) := by rw [show hgM M x (i + 1) = false by simp [hgM, c11_2, c16_3, gc32_4]]; rfl
              rw [e9] at hl
              exact ih (i + 1) (by omega) ls (lv_sub hl [2, 3, 1, 0] rfl)
            · refine lv_aload_n hx hb dX9_hangs_35 rfl (lv_at hl 0 rfl) ?_
              refine fw_get (v := .ref (am 12)) X gC_ok hF hM.2.1 rfl 12 (by decide) wm_491 rfl dX9_hangs_36 ?_
              refine lv_iload_n hx hb dX9_hangs_39 rfl (lv_at hl 3 rfl) ?_
              refine fw_iald X hF (hM.2.2 12 (Or.inl (by decide))) 0 rfl (show vp_in (nI i) 80 from vp_in_nI (by omega) (by decide)) (v := (M 12) i) (by rw [nI_clamp (by omega)] <;> rfl) dX9_hangs_40 ?_
              refine lv_iload_n hx hb dX9_hangs_41 rfl (lv_at hl 1 rfl) ?_
              refine lv_icmp_ne (tgt := 49) hx hb dX9_hangs_42 (by decide) (fun c42_5 => ?_) (fun c42_5 => ?_)
              · refine lv_iconst (v := 0) hx hb dX9_hangs_49 (by decide) ?_
                refine lv_istore_n (lv' := [(2, .int 0), (0, .ref (am 28)), (1, .int x), (3, .int (nI i))]) hx hb dX9_hangs_50 rfl hl (by decide) rfl (fun ls hl => ?_)
                refine lv_iinc (v := nI (i + 1)) (lv' := [(3, .int (nI (i + 1))), (2, .int 0), (0, .ref (am 28)), (1, .int x)]) hx hb dX9_hangs_51 hl (k := 3) rfl (nI_1 i) (by decide) rfl (fun ls hl => ?_)
                refine lv_goto (tgt := 4) hx hb dX9_hangs_54 (by decide) ?_
                rw [er] at c32_4
                have gc32_4 := i_nle.mp c32_4
                have e9 : 0 = bz (hgM M x (i + 1)) := by rw [show hgM M x (i + 1) = false by simp [hgM, c11_2, c16_3, gc32_4, c42_5]]; rfl
                rw [e9] at hl
                exact ih (i + 1) (by omega) ls (lv_sub hl [2, 3, 1, 0] rfl)
              · refine lv_iconst (v := 1) hx hb dX9_hangs_45 (by decide) ?_
                refine lv_goto (tgt := 50) hx hb dX9_hangs_46 (by decide) ?_
                refine lv_istore_n (lv' := [(2, .int 1), (0, .ref (am 28)), (1, .int x), (3, .int (nI i))]) hx hb dX9_hangs_50 rfl hl (by decide) rfl (fun ls hl => ?_)
                refine lv_iinc (v := nI (i + 1)) (lv' := [(3, .int (nI (i + 1))), (2, .int 1), (0, .ref (am 28)), (1, .int x)]) hx hb dX9_hangs_51 hl (k := 3) rfl (nI_1 i) (by decide) rfl (fun ls hl => ?_)
                refine lv_goto (tgt := 4) hx hb dX9_hangs_54 (by decide) ?_
                rw [er] at c32_4
                have gc32_4 := i_nle.mp c32_4
                have e9 : 1 = bz (hgM M x (i + 1)) := by rw [show hgM M x (i + 1) = true by simp [hgM, c11_2, c16_3, gc32_4, c42_5]]; rfl
                rw [e9] at hl
                exact ih (i + 1) (by omega) ls (lv_sub hl [2, 3, 1, 0] rfl)
  have hl : lv_has ls 4 [(0, .ref (am 28)), (1, .int x)] := hl
  refine lv_iconst (v := 0) hx hb dX9_hangs_0 (by decide) ?_
  refine lv_istore_n (lv' := [(2, .int 0), (0, .ref (am 28)), (1, .int x)]) hx hb dX9_hangs_1 rfl hl (by decide) rfl (fun ls hl => ?_)
  refine lv_iconst (v := 0) hx hb dX9_hangs_2 (by decide) ?_
  refine lv_istore_n (lv' := [(3, .int 0), (2, .int 0), (0, .ref (am 28)), (1, .int x)]) hx hb dX9_hangs_3 rfl hl (by decide) rfl (fun ls hl => ?_)
  exact loop 80 0 (by omega) ls (lv_sub hl [2, 3, 1, 0] rfl)
