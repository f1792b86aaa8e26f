/-! the reference: its state is its arrays M (by the number of the field), its report R, its why and its answer -/
abbrev aMo : Type := (Nat → Nat → Int32) × aRe × Int32 × Int32
def mty (k : Nat) : Nat := ([1, 0, 0, 0, 0, 0, 0, 1, 0, 0, 0, 1, 0, 0, 0, 0, 0, 0, 0] : List Nat).getD k 0
def mlen (k : Nat) : Nat := ([4, 4, 8, 4, 4, 100, 100, 100, 4, 80, 4, 4, 80, 4, 4, 1600, 4, 4, 320, 0, 0, 0, 0, 0, 0, 8] : List Nat).getD k 0
abbrev mObj (am : Nat → Nat) (x : aMo) : va_E := .inr (9, [.ref (am 0), .ref (am 1), .ref (am 2), .ref (am 3), .ref (am 4), .ref (am 5), .ref (am 6), .ref (am 7), .ref (am 8), .ref (am 9), .ref (am 10), .ref (am 11), .ref (am 12), .ref (am 13), .ref (am 14), .ref (am 15), .ref (am 16), .ref (am 17), .ref (am 18), .int x.2.1.1, .int x.2.1.2.1, .int x.2.1.2.2.1, .int x.2.1.2.2.2.1, .int x.2.1.2.2.2.2.1, .long x.2.1.2.2.2.2.2, .ref (am 25), .int x.2.2.1, .int x.2.2.2])
def amI (am : Nat → Nat) : Prop := ∀ t t', t < 29 → t' < 29 → am t = am t' → t = t'
theorem amI.ne {am : Nat → Nat} (h : amI am) {t t' : Nat} (h1 : t < 29) (h2 : t' < 29) (h3 : t ≠ t') : am t ≠ am t' := fun e => h3 (h t t' h1 h2 e)
def mar (k : Nat) : Prop := k < 19 ∨ k = 25
def MWd (cs : Nat → ClassId) (am : Nat → Nat) (x : aMo) (w : fW) : Prop := amI am ∧ w (am 28) = some (mObj am x) ∧ ∀ k, mar k → w (am k) = some (.inl (cs (mty k), mlen k, .inl (x.1 k)))
theorem MWd.set {cs : Nat → ClassId} {am : Nat → Nat} {M : Nat → Nat → Int32} {R : aRe} {wy an : Int32} {w : fW} (h : MWd cs am (M, R, wy, an) w) (k : Nat) (hk : mar k) (g : Nat → Int32) : MWd cs am (va_up M k g, R, wy, an) (va_up w (am k) (some (.inl (cs (mty k), mlen k, .inl g)))) := by
  have hk2 : k < 26 := by rcases hk with h | h <;> omega
  refine ⟨h.1, by rw [va_up_ne _ _ (h.1.ne (by omega) (by omega) (by omega))]; exact h.2.1, fun j hj => ?_⟩
  have hj2 : j < 26 := by rcases hj with h | h <;> omega
  by_cases e : j = k
  · subst e
    rw [va_up_self]
    show _ = some (Sum.inl (cs (mty j), mlen j, Sum.inl (va_up M j g j)))
    rw [va_up_self]
  · rw [va_up_ne _ _ (h.1.ne (by omega) (by omega) e)]
    show _ = some (Sum.inl (cs (mty j), mlen j, Sum.inl (va_up M k g j)))
    rw [va_up_ne _ _ e]
    exact h.2.2 j hj
theorem MWd.obj {cs : Nat → ClassId} {am : Nat → Nat} {M : Nat → Nat → Int32} {R : aRe} {wy an : Int32} {w : fW} (h : MWd cs am (M, R, wy, an) w) (R' : aRe) (wy' an' : Int32) : MWd cs am (M, R', wy', an') (va_up w (am 28) (some (mObj am (M, R', wy', an')))) := by
  refine ⟨h.1, va_up_self _ _ _, fun j hj => ?_⟩
  have hj2 : j < 26 := by rcases hj with h | h <;> omega
  rw [va_up_ne _ _ (h.1.ne (by omega) (by omega) (by omega))]
  exact h.2.2 j hj
def sb (b : Int32) : Nat := if b &&& 1 = 0 then 0 else 1
theorem sb_lt (b : Int32) : sb b < 2 := by unfold sb; split <;> omega
theorem and1 (b : Int32) : b &&& 1 = 0 ∨ b &&& 1 = 1 := by
  rw [pk_and b (m := 1) 1 rfl]
  rcases (show b.toBitVec.toNat % 2 ^ 1 = 0 ∨ b.toBitVec.toNat % 2 ^ 1 = 1 by omega) with h | h <;> rw [h]
  · exact Or.inl rfl
  · exact Or.inr rfl
theorem and_sb (b : Int32) : b &&& 1 = nI (sb b) := by
  unfold sb
  rcases and1 b with h | h
  · rw [h]; rfl
  · rw [h]; rfl
theorem and_sb1 (b : Int32) : b &&& nI 1 = nI (sb b) := and_sb b
theorem nl1 : (1 : Int32) = nI 1 := rfl
theorem nl2 : (2 : Int32) = nI 2 := rfl
theorem nl3 : (3 : Int32) = nI 3 := rfl
theorem nl4 : (4 : Int32) = nI 4 := rfl
theorem nl5 : (5 : Int32) = nI 5 := rfl
theorem nl16 : (16 : Int32) = nI 16 := rfl
theorem nl20 : (20 : Int32) = nI 20 := rfl
theorem nl400 : (400 : Int32) = nI 400 := rfl
def inn (v lo hi : Int64) : Bool := decide (lo ≤ v) && decide (v ≤ hi)
theorem i64_nlt {x y : Int64} : ¬ x < y ↔ y ≤ x := by rw [Int64.lt_iff_toInt_lt, Int64.le_iff_toInt_le]; omega
theorem i64_nle {x y : Int64} : ¬ x ≤ y ↔ y < x := by rw [Int64.lt_iff_toInt_lt, Int64.le_iff_toInt_le]; omega
theorem inn_iff {v lo hi : Int64} : inn v lo hi = true ↔ lo.toInt ≤ v.toInt ∧ v.toInt ≤ hi.toInt := by
  unfold inn
  rw [Bool.and_eq_true, decide_eq_true_eq, decide_eq_true_eq, Int64.le_iff_toInt_le, Int64.le_iff_toInt_le]
theorem wi_iff {i n : Int32} : wi i n = true ↔ 0 ≤ i.toInt ∧ i.toInt < n.toInt := by
  have h3 : (0 : Int32).toInt = 0 := rfl
  unfold wi
  rw [Bool.and_eq_true, decide_eq_true_eq, decide_eq_true_eq, Int32.le_iff_toInt_le, Int32.lt_iff_toInt_lt, h3]
theorem beq_iff {a b : Bool} (h : a = true ↔ b = true) : a = b := by
  cases a <;> cases b <;> simp_all
theorem inn_wi {x n : Int32} {hi : Int64} (h : hi.toInt = n.toInt - 1) : inn x.toInt64 0 hi = wi x n := by
  refine beq_iff ?_
  have h3 : (0 : Int64).toInt = 0 := rfl
  rw [inn_iff, wi_iff, h, h3, Int32.toInt_toInt64]
  omega
theorem n1_int {n : Int32} (h : lenI n) : ((n - 1).toInt64).toInt = n.toInt - 1 := by
  have h1 := Int32.le_iff_toInt_le.mp h.1
  have h2 := Int32.le_iff_toInt_le.mp h.2
  have e1 : (-1 : Int32).toInt = -1 := rfl
  have e2 : (12 : Int32).toInt = 12 := rfl
  rw [Int32.toInt_toInt64, Int32.toInt_sub]
  have e3 : (1 : Int32).toInt = 1 := rfl
  rw [e3]
  have : (n.toInt - 1).bmod (2 ^ 32) = n.toInt - 1 := Int.bmod_eq_of_le (by omega) (by omega)
  exact this
theorem inn_len {x n : Int32} (h : lenI n) : inn x.toInt64 0 (n - 1).toInt64 = wi x n := inn_wi (n1_int h)
theorem k789 {k : Int32} (h1 : ¬ k < 7) (h2 : ¬ 9 < k) : k = 7 ∨ k = 8 ∨ k = 9 := by
  have a1 := Int32.le_iff_toInt_le.mp (i_nlt.mp h1)
  have a2 := Int32.le_iff_toInt_le.mp (i_nlt.mp h2)
  have h3 : (7 : Int32).toInt = 7 := rfl
  have h4 : (9 : Int32).toInt = 9 := rfl
  rw [gx_i k 7 (a := 7) rfl, gx_i k 8 (a := 8) rfl, gx_i k 9 (a := 9) rfl]
  omega
set_option maxHeartbeats 4000000 in
set_option maxRecDepth 100000 in
theorem c_X9_in (l : Launch) (D : va_G) (cs : Nat → ClassId) (w : fW) (sz : Nat) (x lo hi : Int64) : gM l bs_B nw_B D cls10 (tyl cs) yX9_in cX9_in 6 (some .boolean) 0 0 0 0 w sz [.long x, .long lo, .long hi] (fun v w' => v = some (.int (bz (inn x lo hi))) ∧ w' = w) := by
  refine gM.of (by decide +kernel) (Nat.le_of_ble_eq_true rfl) (fun p e s m below meth c A ls X hsz hnm hF hS hl => ?_)
  have hx := X.1
  have hb := X.2.1
  have hl : lv_has ls 6 [(0, .long x), (2, .long lo), (4, .long hi)] := hl
  refine lv_lload_n hx hb dX9_in_0 rfl (lv_at hl 0 rfl) ?_
  refine lv_lload_n hx hb dX9_in_1 rfl (lv_at hl 1 rfl) ?_
  refine W.lcmp hx hb dX9_in_2 ?_
  refine lv_if_lt (tgt := 17) hx hb dX9_in_3 (by decide) (fun c3_1 => ?_) (fun c3_1 => ?_)
  · refine lv_iconst (v := 0) hx hb dX9_in_17 (by decide) ?_
    refine fw_zret X hF hS rfl ?_ (Nat.le_of_ble_eq_true rfl) (Nat.le_of_ble_eq_true rfl) dX9_in_18
    exact ⟨congrArg (fun b => some (Value.int (bz b))) (show false = inn x lo hi by unfold inn; rw [decide_eq_false (i64_nle.mpr ((lg_cmp_lt _ _).mp c3_1))]; rfl), rfl⟩
  · refine lv_lload_n hx hb dX9_in_6 rfl (lv_at hl 0 rfl) ?_
    refine lv_lload hx hb dX9_in_7 (lv_at hl 2 rfl) ?_
    refine W.lcmp hx hb dX9_in_9 ?_
    refine lv_if_gt (tgt := 17) hx hb dX9_in_10 (by decide) (fun c10_2 => ?_) (fun c10_2 => ?_)
    · refine lv_iconst (v := 0) hx hb dX9_in_17 (by decide) ?_
      refine fw_zret X hF hS rfl ?_ (Nat.le_of_ble_eq_true rfl) (Nat.le_of_ble_eq_true rfl) dX9_in_18
      exact ⟨congrArg (fun b => some (Value.int (bz b))) (show false = inn x lo hi by unfold inn; rw [decide_eq_false (i64_nle.mpr ((lg_cmp_gt _ _).mp c10_2)), Bool.and_false]), rfl⟩
    · refine lv_iconst (v := 1) hx hb dX9_in_13 (by decide) ?_
      refine lv_goto (tgt := 18) hx hb dX9_in_14 (by decide) ?_
      refine fw_zret X hF hS rfl ?_ (Nat.le_of_ble_eq_true rfl) (Nat.le_of_ble_eq_true rfl) dX9_in_18
      exact ⟨congrArg (fun b => some (Value.int (bz b))) (show true = inn x lo hi by unfold inn; rw [decide_eq_true (i64_nlt.mp (fun q => c3_1 ((lg_cmp_lt _ _).mpr q))), decide_eq_true (i64_nlt.mp (fun q => c10_2 ((lg_cmp_gt _ _).mpr q)))]; rfl), rfl⟩
set_option maxHeartbeats 4000000 in
set_option maxRecDepth 100000 in
theorem c_X9_isStep (l : Launch) (D : va_G) (cs : Nat → ClassId) (w : fW) (sz : Nat) (k a b d : Int32) : gM l bs_B nw_B D cls10 (tyl cs) yX9_isStep cX9_isStep 4 (some .boolean) 1 25 0 0 w sz [.int k, .int a, .int b, .int d] (fun v w' => v = some (.int (bz (okS k a b d))) ∧ w' = w) := by
  refine gM.of (by decide +kernel) (Nat.le_of_ble_eq_true rfl) (fun p e s m below meth c A ls X hsz hnm hF hS hl => ?_)
  have hx := X.1
  have hb := X.2.1
  have hl : lv_has ls 4 [(0, .int k), (1, .int a), (2, .int b), (3, .int d)] := hl
  refine lv_iload_n hx hb dX9_isStep_0 rfl (lv_at hl 0 rfl) ?_
  refine lv_i2l hx hb dX9_isStep_1 rfl ?_
  refine lv_lconst (v := 0) hx hb dX9_isStep_2 (by decide) ?_
  refine lv_ldc2 (v := 16) hx hb X.2.2.2.1 (X.2.2.2.2.1 _ wm_572) dX9_isStep_3 ?_
  refine fw_callS (As := [.long k.toInt64, .long 0, .long 16]) (rest := []) X bs_all nw_all mf_X9_in (c_X9_in l D cs _ _ k.toInt64 0 16) wm_573 wm_574 hF hS rfl ((⟨⟨Nat.le_of_ble_eq_true rfl, Nat.le_of_ble_eq_true rfl⟩, Nat.le_of_ble_eq_true rfl, Nat.le_of_ble_eq_true rfl⟩)) rfl hl.1 rfl (Nat.le_of_ble_eq_true rfl) dX9_isStep_6 (fun v u1 H locs hp hF hS hz1 hk1 hd1 => ?_)
  obtain ⟨rfl, hw1⟩ := hp
  rw [hw1] at hF
  refine W.eq (g2 := F0 m 9 ls [.int (bz (inn k.toInt64 0 16))]) rfl ?_
  refine gx_ifeq (tgt := 24) hx hb dX9_isStep_9 (by decide) (fun c9_2 => ?_) (fun c9_2 => ?_)
  · refine lv_iconst (v := 0) hx hb dX9_isStep_24 (by decide) ?_
    refine fw_zret X hF hS rfl ?_ (Nat.le_of_ble_eq_true rfl) (Nat.le_of_ble_eq_true rfl) dX9_isStep_25
    refine ⟨congrArg (fun z => some (Value.int (bz z))) (show false = okS k a b d from ?_), rfl⟩
    have gc9_2 := c9_2
    rw [inn_wi (n := 17) rfl] at gc9_2
    simp [okS, (by decide : wi 13 17 = true), gc9_2]
  · refine lv_iload_n hx hb dX9_isStep_12 rfl (lv_at hl 1 rfl) ?_
    refine lv_i2l hx hb dX9_isStep_13 rfl ?_
    refine lv_lconst (v := 0) hx hb dX9_isStep_14 (by decide) ?_
    refine lv_ldc2 (v := 3) hx hb X.2.2.2.1 (X.2.2.2.2.1 _ wm_576) dX9_isStep_15 ?_
    refine fw_callS (As := [.long a.toInt64, .long 0, .long 3]) (rest := []) X bs_all nw_all mf_X9_in (c_X9_in l D cs _ _ a.toInt64 0 3) wm_573 wm_574 hF hS rfl ((⟨⟨Nat.le_of_ble_eq_true rfl, Nat.le_of_ble_eq_true rfl⟩, Nat.le_of_ble_eq_true rfl, Nat.le_of_ble_eq_true rfl⟩)) rfl hl.1 rfl (Nat.le_of_ble_eq_true rfl) dX9_isStep_18 (fun v u3 H locs hp hF hS hz1 hk1 hd1 => ?_)
    obtain ⟨rfl, hw1⟩ := hp
    rw [hw1] at hF
    refine W.eq (g2 := F0 m 21 ls [.int (bz (inn a.toInt64 0 3))]) rfl ?_
    refine gx_ifne (tgt := 26) hx hb dX9_isStep_21 (by decide) (fun c21_4 => ?_) (fun c21_4 => ?_)
    · refine lv_iload_n hx hb dX9_isStep_26 rfl (lv_at hl 0 rfl) ?_
      refine lv_bipush (v := 13) hx hb dX9_isStep_27 (by decide) ?_
      refine lv_icmp_ne (tgt := 44) hx hb dX9_isStep_29 (by decide) (fun c29_5 => ?_) (fun c29_5 => ?_)
      · refine lv_iload_n hx hb dX9_isStep_44 rfl (lv_at hl 0 rfl) ?_
        refine lv_bipush (v := 7) hx hb dX9_isStep_45 (by decide) ?_
        refine lv_icmp_lt (tgt := 74) hx hb dX9_isStep_47 (by decide) (fun c47_6 => ?_) (fun c47_6 => ?_)
        · refine lv_iconst (v := 1) hx hb dX9_isStep_74 (by decide) ?_
          refine lv_goto (tgt := 79) hx hb dX9_isStep_75 (by decide) ?_
          refine fw_zret X hF hS rfl ?_ (Nat.le_of_ble_eq_true rfl) (Nat.le_of_ble_eq_true rfl) dX9_isStep_79
          refine ⟨congrArg (fun z => some (Value.int (bz z))) (show true = okS k a b d from ?_), rfl⟩
          have gc9_2 := c9_2
          rw [inn_wi (n := 17) rfl] at gc9_2
          have gc21_4 := c21_4
          rw [inn_wi (n := 4) rfl] at gc21_4
          have gc47_6 := c47_6
          have m7 : ¬ k = 7 := fun q => by rw [q] at c47_6; revert c47_6; decide
          have m8 : ¬ k = 8 := fun q => by rw [q] at c47_6; revert c47_6; decide
          have m9 : ¬ k = 9 := fun q => by rw [q] at c47_6; revert c47_6; decide
          have m13 : ¬ k = 13 := fun q => by rw [q] at c47_6; revert c47_6; decide
          simp [okS, (by decide : wi 13 17 = true), gc9_2, gc21_4, c29_5, gc47_6, m7, m8, m9, m13]
        · refine lv_iload_n hx hb dX9_isStep_50 rfl (lv_at hl 0 rfl) ?_
          refine lv_bipush (v := 9) hx hb dX9_isStep_51 (by decide) ?_
          refine lv_icmp_gt (tgt := 74) hx hb dX9_isStep_53 (by decide) (fun c53_7 => ?_) (fun c53_7 => ?_)
          · refine lv_iconst (v := 1) hx hb dX9_isStep_74 (by decide) ?_
            refine lv_goto (tgt := 79) hx hb dX9_isStep_75 (by decide) ?_
            refine fw_zret X hF hS rfl ?_ (Nat.le_of_ble_eq_true rfl) (Nat.le_of_ble_eq_true rfl) dX9_isStep_79
            refine ⟨congrArg (fun z => some (Value.int (bz z))) (show true = okS k a b d from ?_), rfl⟩
            have gc9_2 := c9_2
            rw [inn_wi (n := 17) rfl] at gc9_2
            have gc21_4 := c21_4
            rw [inn_wi (n := 4) rfl] at gc21_4
            have gc47_6 := i_nlt.mp c47_6
            have gc53_7 := i_nle.mpr c53_7
            have m7 : ¬ k = 7 := fun q => by rw [q] at c53_7; revert c53_7; decide
            have m8 : ¬ k = 8 := fun q => by rw [q] at c53_7; revert c53_7; decide
            have m9 : ¬ k = 9 := fun q => by rw [q] at c53_7; revert c53_7; decide
            simp [okS, (by decide : wi 13 17 = true), gc9_2, gc21_4, c29_5, gc47_6, gc53_7, m7, m8, m9]
          · refine lv_iload_n hx hb dX9_isStep_56 rfl (lv_at hl 2 rfl) ?_
            refine lv_bipush (v := 12) hx hb dX9_isStep_57 (by decide) ?_
            refine lv_icmp_gt (tgt := 78) hx hb dX9_isStep_59 (by decide) (fun c59_8 => ?_) (fun c59_8 => ?_)
            · refine lv_iconst (v := 0) hx hb dX9_isStep_78 (by decide) ?_
              refine fw_zret X hF hS rfl ?_ (Nat.le_of_ble_eq_true rfl) (Nat.le_of_ble_eq_true rfl) dX9_isStep_79
              refine ⟨congrArg (fun z => some (Value.int (bz z))) (show false = okS k a b d from ?_), rfl⟩
              have gc9_2 := c9_2
              rw [inn_wi (n := 17) rfl] at gc9_2
              have gc21_4 := c21_4
              rw [inn_wi (n := 4) rfl] at gc21_4
              have gc47_6 := i_nlt.mp c47_6
              have gc53_7 := i_nlt.mp c53_7
              have gc59_8 := i_nle.mpr c59_8
              rcases k789 c47_6 c53_7 with e9 | e9 | e9
              all_goals (subst e9; first | simp [okS, (by decide : wi 7 17 = true), (by decide : wi 8 17 = true), (by decide : wi 9 17 = true), gc21_4, gc59_8])
            · refine lv_iload_n hx hb dX9_isStep_62 rfl (lv_at hl 0 rfl) ?_
              refine lv_bipush (v := 9) hx hb dX9_isStep_63 (by decide) ?_
              refine lv_icmp_ne (tgt := 74) hx hb dX9_isStep_65 (by decide) (fun c65_9 => ?_) (fun c65_9 => ?_)
              · refine lv_iconst (v := 1) hx hb dX9_isStep_74 (by decide) ?_
                refine lv_goto (tgt := 79) hx hb dX9_isStep_75 (by decide) ?_
                refine fw_zret X hF hS rfl ?_ (Nat.le_of_ble_eq_true rfl) (Nat.le_of_ble_eq_true rfl) dX9_isStep_79
                refine ⟨congrArg (fun z => some (Value.int (bz z))) (show true = okS k a b d from ?_), rfl⟩
                have gc9_2 := c9_2
                rw [inn_wi (n := 17) rfl] at gc9_2
                have gc21_4 := c21_4
                rw [inn_wi (n := 4) rfl] at gc21_4
                have gc47_6 := i_nlt.mp c47_6
                have gc53_7 := i_nlt.mp c53_7
                have gc59_8 := i_nlt.mp c59_8
                rcases k789 c47_6 c53_7 with e9 | e9 | e9
                all_goals (subst e9; first | exact absurd rfl c65_9 | exact absurd c65_9 (by decide) | simp [okS, (by decide : wi 7 17 = true), (by decide : wi 8 17 = true), (by decide : wi 9 17 = true), gc21_4, gc59_8])
              · refine lv_iload_n hx hb dX9_isStep_68 rfl (lv_at hl 3 rfl) ?_
                refine lv_bipush (v := 12) hx hb dX9_isStep_69 (by decide) ?_
                refine lv_icmp_gt (tgt := 78) hx hb dX9_isStep_71 (by decide) (fun c71_10 => ?_) (fun c71_10 => ?_)
                · refine lv_iconst (v := 0) hx hb dX9_isStep_78 (by decide) ?_
                  refine fw_zret X hF hS rfl ?_ (Nat.le_of_ble_eq_true rfl) (Nat.le_of_ble_eq_true rfl) dX9_isStep_79
                  refine ⟨congrArg (fun z => some (Value.int (bz z))) (show false = okS k a b d from ?_), rfl⟩
                  have gc9_2 := c9_2
                  rw [inn_wi (n := 17) rfl] at gc9_2
                  have gc21_4 := c21_4
                  rw [inn_wi (n := 4) rfl] at gc21_4
                  have gc47_6 := i_nlt.mp c47_6
                  have gc53_7 := i_nlt.mp c53_7
                  have gc59_8 := i_nlt.mp c59_8
                  have gc71_10 := i_nle.mpr c71_10
                  rcases k789 c47_6 c53_7 with e9 | e9 | e9
                  all_goals (subst e9; first | exact absurd rfl c65_9 | exact absurd c65_9 (by decide) | simp [okS, (by decide : wi 7 17 = true), (by decide : wi 8 17 = true), (by decide : wi 9 17 = true), gc21_4, gc59_8, gc71_10])
                · refine lv_iconst (v := 1) hx hb dX9_isStep_74 (by decide) ?_
                  refine lv_goto (tgt := 79) hx hb dX9_isStep_75 (by decide) ?_
                  refine fw_zret X hF hS rfl ?_ (Nat.le_of_ble_eq_true rfl) (Nat.le_of_ble_eq_true rfl) dX9_isStep_79
                  refine ⟨congrArg (fun z => some (Value.int (bz z))) (show true = okS k a b d from ?_), rfl⟩
                  have gc9_2 := c9_2
                  rw [inn_wi (n := 17) rfl] at gc9_2
                  have gc21_4 := c21_4
                  rw [inn_wi (n := 4) rfl] at gc21_4
                  have gc47_6 := i_nlt.mp c47_6
                  have gc53_7 := i_nlt.mp c53_7
                  have gc59_8 := i_nlt.mp c59_8
                  have gc71_10 := i_nlt.mp c71_10
                  rcases k789 c47_6 c53_7 with e9 | e9 | e9
                  all_goals (subst e9; first | exact absurd rfl c65_9 | exact absurd c65_9 (by decide) | simp [okS, (by decide : wi 7 17 = true), (by decide : wi 8 17 = true), (by decide : wi 9 17 = true), gc21_4, gc59_8, gc71_10])
      · refine lv_iload_n hx hb dX9_isStep_32 rfl (lv_at hl 3 rfl) ?_
        refine lv_i2l hx hb dX9_isStep_33 rfl ?_
        refine lv_lconst (v := 0) hx hb dX9_isStep_34 (by decide) ?_
        refine lv_ldc2 (v := 3) hx hb X.2.2.2.1 (X.2.2.2.2.1 _ wm_576) dX9_isStep_35 ?_
        refine fw_callS (As := [.long d.toInt64, .long 0, .long 3]) (rest := []) X bs_all nw_all mf_X9_in (c_X9_in l D cs _ _ d.toInt64 0 3) wm_573 wm_574 hF hS rfl ((⟨⟨Nat.le_of_ble_eq_true rfl, Nat.le_of_ble_eq_true rfl⟩, Nat.le_of_ble_eq_true rfl, Nat.le_of_ble_eq_true rfl⟩)) rfl hl.1 rfl (Nat.le_of_ble_eq_true rfl) dX9_isStep_38 (fun v u11 H locs hp hF hS hz1 hk1 hd1 => ?_)
        obtain ⟨rfl, hw1⟩ := hp
        rw [hw1] at hF
        refine W.eq (g2 := F0 m 41 ls [.int (bz (inn d.toInt64 0 3))]) rfl ?_
        refine lv_goto (tgt := 79) hx hb dX9_isStep_41 (by decide) ?_
        refine fw_zret X hF hS (gx_nbz _) ?_ (Nat.le_of_ble_eq_true rfl) (Nat.le_of_ble_eq_true rfl) dX9_isStep_79
        refine ⟨congrArg (fun z => some (Value.int (bz z))) (show (inn d.toInt64 0 3) = okS k a b d from ?_), rfl⟩
        have gc9_2 := c9_2
        rw [inn_wi (n := 17) rfl] at gc9_2
        have gc21_4 := c21_4
        rw [inn_wi (n := 4) rfl] at gc21_4
        rw [inn_wi (n := 4) rfl]
        simp [okS, (by decide : wi 13 17 = true), gc9_2, gc21_4, c29_5]
    · refine lv_iconst (v := 0) hx hb dX9_isStep_24 (by decide) ?_
      refine fw_zret X hF hS rfl ?_ (Nat.le_of_ble_eq_true rfl) (Nat.le_of_ble_eq_true rfl) dX9_isStep_25
      refine ⟨congrArg (fun z => some (Value.int (bz z))) (show false = okS k a b d from ?_), rfl⟩
      have gc9_2 := c9_2
      rw [inn_wi (n := 17) rfl] at gc9_2
      have gc21_4 := c21_4
      rw [inn_wi (n := 4) rfl] at gc21_4
      simp [okS, (by decide : wi 13 17 = true), gc9_2, gc21_4]
set_option maxHeartbeats 4000000 in
set_option maxRecDepth 100000 in
theorem c_X9_fails (l : Launch) (D : va_G) (cs : Nat → ClassId) (w : fW) (sz : Nat) (am : Nat → Nat) (M : Nat → Nat → Int32) (R : aRe) (wy an : Int32) (hM : MWd cs am (M, R, wy, an) w) (r : Int32) : gM l bs_B nw_B D cls10 (tyl cs) yX9_fails cX9_fails 2 none 0 0 0 0 w sz [.ref (am 28), .int r] (fun v w' => v = none ∧ MWd cs am (M, R, r, 0) w') := by
  refine gM.of (by decide +kernel) (Nat.le_of_ble_eq_true rfl) (fun p e s m below meth c A ls X hsz hnm hF hS hl => ?_)
  have hx := X.1
  have hb := X.2.1
  have hl : lv_has ls 2 [(0, .ref (am 28)), (1, .int r)] := hl
  refine lv_aload_n hx hb dX9_fails_0 rfl (lv_at hl 0 rfl) ?_
  refine lv_iload_n hx hb dX9_fails_1 rfl (lv_at hl 1 rfl) ?_
  refine fw_put X gC_ok hF hS hM.2.1 rfl 26 (by decide) wm_505 rfl (tf := .int) (by decide +kernel) rfl rfl (Nat.le_of_ble_eq_true rfl) dX9_fails_2 (fun H locs hF hS => ?_)
  obtain ⟨u1, hu1⟩ : ∃ y : fW, y = va_up w (am 28) (some (mObj am (M, R, r, an))) := ⟨_, rfl⟩
  have hM := hM.obj R r an
  have hF : fw_P D cls10 A u1 H := by rw [hu1]; exact hF
  have hM : MWd cs am (M, R, r, an) u1 := by rw [hu1]; exact hM
  refine lv_aload_n hx hb dX9_fails_5 rfl (lv_at hl 0 rfl) ?_
  refine lv_iconst (v := 0) hx hb dX9_fails_6 (by decide) ?_
  refine fw_put X gC_ok hF hS hM.2.1 rfl 27 (by decide) wm_506 rfl (tf := .int) (by decide +kernel) rfl rfl (Nat.le_of_ble_eq_true rfl) dX9_fails_7 (fun H locs hF hS => ?_)
  obtain ⟨u2, hu2⟩ : ∃ y : fW, y = va_up u1 (am 28) (some (mObj am (M, R, r, 0))) := ⟨_, rfl⟩
  have hM := hM.obj R r 0
  have hF : fw_P D cls10 A u2 H := by rw [hu2]; exact hF
  have hM : MWd cs am (M, R, r, 0) u2 := by rw [hu2]; exact hM
  refine fw_vret X hF hS ?_ (Nat.le_of_ble_eq_true rfl) (Nat.le_of_ble_eq_true rfl) dX9_fails_10
  exact ⟨rfl, hM⟩
set_option maxHeartbeats 4000000 in
set_option maxRecDepth 100000 in
theorem c_X9_strip (l : Launch) (D : va_G) (cs : Nat → ClassId) (w : fW) (sz : Nat) (am : Nat → Nat) (M : Nat → Nat → Int32) (R : aRe) (wy an : Int32) (hM : MWd cs am (M, R, wy, an) w) (a : Nat) (ha : a < 4) : gM l bs_B nw_B D cls10 (tyl cs) yX9_strip cX9_strip 2 none 0 0 0 0 w sz [.ref (am 28), .int (nI a)] (fun v w' => v = none ∧ MWd cs am (va_up (va_up M 2 (upd (upd (M 2) (2 * a) (-1)) (2 * a + 1) (-1))) 3 (upd (M 3) a 0), R, wy, 1) w') := by
  refine gM.of (by decide +kernel) (Nat.le_of_ble_eq_true rfl) (fun p e s m below meth c A ls X hsz hnm hF hS hl => ?_)
  have hx := X.1
  have hb := X.2.1
  have hl : lv_has ls 2 [(0, .ref (am 28)), (1, .int (nI a))] := hl
  refine lv_aload_n hx hb dX9_strip_0 rfl (lv_at hl 0 rfl) ?_
  refine fw_get (v := .ref (am 2)) X gC_ok hF hM.2.1 rfl 2 (by decide) wm_481 rfl dX9_strip_1 ?_
  refine lv_iconst (v := 2) hx hb dX9_strip_4 (by decide) ?_
  refine lv_iload_n hx hb dX9_strip_5 rfl (lv_at hl 1 rfl) ?_
  refine lv_imul hx hb dX9_strip_6 ?_
  refine lv_iconst (v := (-1)) hx hb dX9_strip_7 (by decide) ?_
  refine fw_iast X hF hS (hM.2.2 2 (Or.inl (by decide))) 0 rfl (show vp_in (2 * (nI a)) 8 by rw [(show 2 * (nI a) = nI (2 * a) by simp only [and_sb, and_sb1, nl1, nl2, nl3, nl4, nl5, nl16, nl20, nl400, pk_mul, nI_add])]; exact vp_in_nI (by omega) (by decide)) dX9_strip_8 (fun H locs hF hS => ?_)
  rw [show (2 * (nI a)).toNatClampNeg = 2 * a by rw [(show 2 * (nI a) = nI (2 * a) by simp only [and_sb, and_sb1, nl1, nl2, nl3, nl4, nl5, nl16, nl20, nl400, pk_mul, nI_add])]; exact nI_clamp (by omega)] at hF
  obtain ⟨u1, hu1⟩ : ∃ y : fW, y = va_up w (am 2) (some (.inl (cs 0, 8, .inl (upd (M 2) (2 * a) (-1))))) := ⟨_, rfl⟩
  have hM := hM.set 2 (Or.inl (by decide)) (upd (M 2) (2 * a) (-1))
  have hF : fw_P D cls10 A u1 H := by rw [hu1]; exact hF
  have hM : MWd cs am (va_up M 2 (upd (M 2) (2 * a) (-1)), R, wy, an) u1 := by rw [hu1]; exact hM
  refine lv_aload_n hx hb dX9_strip_9 rfl (lv_at hl 0 rfl) ?_
  refine fw_get (v := .ref (am 2)) X gC_ok hF hM.2.1 rfl 2 (by decide) wm_481 rfl dX9_strip_10 ?_
  refine lv_iconst (v := 2) hx hb dX9_strip_13 (by decide) ?_
  refine lv_iload_n hx hb dX9_strip_14 rfl (lv_at hl 1 rfl) ?_
  refine lv_imul hx hb dX9_strip_15 ?_
  refine lv_iconst (v := 1) hx hb dX9_strip_16 (by decide) ?_
  refine lv_iadd hx hb dX9_strip_17 ?_
  refine lv_iconst (v := (-1)) hx hb dX9_strip_18 (by decide) ?_
  refine fw_iast X hF hS (hM.2.2 2 (Or.inl (by decide))) 0 rfl (show vp_in ((2 * (nI a)) + 1) 8 by rw [(show (2 * (nI a)) + 1 = nI (2 * a + 1) by simp only [and_sb, and_sb1, nl1, nl2, nl3, nl4, nl5, nl16, nl20, nl400, pk_mul, nI_add])]; exact vp_in_nI (by omega) (by decide)) dX9_strip_19 (fun H locs hF hS => ?_)
  rw [show ((2 * (nI a)) + 1).toNatClampNeg = 2 * a + 1 by rw [(show (2 * (nI a)) + 1 = nI (2 * a + 1) by simp only [and_sb, and_sb1, nl1, nl2, nl3, nl4, nl5, nl16, nl20, nl400, pk_mul, nI_add])]; exact nI_clamp (by omega)] at hF
  obtain ⟨u2, hu2⟩ : ∃ y : fW, y = va_up u1 (am 2) (some (.inl (cs 0, 8, .inl (upd (upd (M 2) (2 * a) (-1)) (2 * a + 1) (-1))))) := ⟨_, rfl⟩
  have hM := hM.set 2 (Or.inl (by decide)) (upd (upd (M 2) (2 * a) (-1)) (2 * a + 1) (-1))
  rw [uu] at hM
  have hF : fw_P D cls10 A u2 H := by rw [hu2]; exact hF
  have hM : MWd cs am (va_up M 2 (upd (upd (M 2) (2 * a) (-1)) (2 * a + 1) (-1)), R, wy, an) u2 := by rw [hu2]; exact hM
  refine lv_aload_n hx hb dX9_strip_20 rfl (lv_at hl 0 rfl) ?_
  refine fw_get (v := .ref (am 3)) X gC_ok hF hM.2.1 rfl 3 (by decide) wm_482 rfl dX9_strip_21 ?_
  refine lv_iload_n hx hb dX9_strip_24 rfl (lv_at hl 1 rfl) ?_
  refine lv_iconst (v := 0) hx hb dX9_strip_25 (by decide) ?_
  refine fw_iast X hF hS (hM.2.2 3 (Or.inl (by decide))) 0 rfl (show vp_in (nI a) 4 from vp_in_nI (by omega) (by decide)) dX9_strip_26 (fun H locs hF hS => ?_)
  rw [show (nI a).toNatClampNeg = a from nI_clamp (by omega)] at hF
  obtain ⟨u3, hu3⟩ : ∃ y : fW, y = va_up u2 (am 3) (some (.inl (cs 0, 4, .inl (upd (M 3) a 0)))) := ⟨_, rfl⟩
  have hM := hM.set 3 (Or.inl (by decide)) (upd (M 3) a 0)
  have hF : fw_P D cls10 A u3 H := by rw [hu3]; exact hF
  have hM : MWd cs am (va_up (va_up M 2 (upd (upd (M 2) (2 * a) (-1)) (2 * a + 1) (-1))) 3 (upd (M 3) a 0), R, wy, an) u3 := by rw [hu3]; exact hM
  refine lv_aload_n hx hb dX9_strip_27 rfl (lv_at hl 0 rfl) ?_
  refine lv_iconst (v := 1) hx hb dX9_strip_28 (by decide) ?_
  refine fw_put X gC_ok hF hS hM.2.1 rfl 27 (by decide) wm_506 rfl (tf := .int) (by decide +kernel) rfl rfl (Nat.le_of_ble_eq_true rfl) dX9_strip_29 (fun H locs hF hS => ?_)
  obtain ⟨u4, hu4⟩ : ∃ y : fW, y = va_up u3 (am 28) (some (mObj am (va_up (va_up M 2 (upd (upd (M 2) (2 * a) (-1)) (2 * a + 1) (-1))) 3 (upd (M 3) a 0), R, wy, 1))) := ⟨_, rfl⟩
  have hM := hM.obj R wy 1
  have hF : fw_P D cls10 A u4 H := by rw [hu4]; exact hF
  have hM : MWd cs am (va_up (va_up M 2 (upd (upd (M 2) (2 * a) (-1)) (2 * a + 1) (-1))) 3 (upd (M 3) a 0), R, wy, 1) u4 := by rw [hu4]; exact hM
  refine fw_vret X hF hS ?_ (Nat.le_of_ble_eq_true rfl) (Nat.le_of_ble_eq_true rfl) dX9_strip_32
  exact ⟨rfl, hM⟩
set_option maxHeartbeats 4000000 in
set_option maxRecDepth 100000 in
theorem c_X9_build (l : Launch) (D : va_G) (cs : Nat → ClassId) (w : fW) (sz : Nat) (am : Nat → Nat) (M : Nat → Nat → Int32) (R : aRe) (wy an : Int32) (hM : MWd cs am (M, R, wy, an) w) (a : Nat) (b : Int32) (ha : a < 4) : gM l bs_B nw_B D cls10 (tyl cs) yX9_build cX9_build 3 none 1 21 0 0 w sz [.ref (am 28), .int (nI a), .int b] (fun v w' => v = none ∧ MWd cs am (va_up (va_up (va_up (va_up M 0 (upd (M 0) a 1)) 1 (upd (M 1) a b)) 2 (upd (upd (M 2) (2 * a) (-1)) (2 * a + 1) (-1))) 3 (upd (M 3) a 0), R, wy, b) w') := by
  refine gM.of (by decide +kernel) (Nat.le_of_ble_eq_true rfl) (fun p e s m below meth c A ls X hsz hnm hF hS hl => ?_)
  have hx := X.1
  have hb := X.2.1
  have hl : lv_has ls 3 [(0, .ref (am 28)), (1, .int (nI a)), (2, .int b)] := hl
  refine lv_aload_n hx hb dX9_build_0 rfl (lv_at hl 0 rfl) ?_
  refine fw_get (v := .ref (am 0)) X gC_ok hF hM.2.1 rfl 0 (by decide) wm_479 rfl dX9_build_1 ?_
  refine lv_iload_n hx hb dX9_build_4 rfl (lv_at hl 1 rfl) ?_
  refine lv_iconst (v := 1) hx hb dX9_build_5 (by decide) ?_
  refine fw_zast X hF hS (hM.2.2 0 (Or.inl (by decide))) 1 rfl (show vp_in (nI a) 4 from vp_in_nI (by omega) (by decide)) (v := 1) rfl dX9_build_6 (fun H locs hF hS => ?_)
  rw [show (nI a).toNatClampNeg = a from nI_clamp (by omega)] at hF
  obtain ⟨u1, hu1⟩ : ∃ y : fW, y = va_up w (am 0) (some (.inl (cs 1, 4, .inl (upd (M 0) a 1)))) := ⟨_, rfl⟩
  have hM := hM.set 0 (Or.inl (by decide)) (upd (M 0) a 1)
  have hF : fw_P D cls10 A u1 H := by rw [hu1]; exact hF
  have hM : MWd cs am (va_up M 0 (upd (M 0) a 1), R, wy, an) u1 := by rw [hu1]; exact hM
  refine lv_aload_n hx hb dX9_build_7 rfl (lv_at hl 0 rfl) ?_
  refine fw_get (v := .ref (am 1)) X gC_ok hF hM.2.1 rfl 1 (by decide) wm_480 rfl dX9_build_8 ?_
  refine lv_iload_n hx hb dX9_build_11 rfl (lv_at hl 1 rfl) ?_
  refine lv_iload_n hx hb dX9_build_12 rfl (lv_at hl 2 rfl) ?_
  refine fw_iast X hF hS (hM.2.2 1 (Or.inl (by decide))) 0 rfl (show vp_in (nI a) 4 from vp_in_nI (by omega) (by decide)) dX9_build_13 (fun H locs hF hS => ?_)
  rw [show (nI a).toNatClampNeg = a from nI_clamp (by omega)] at hF
  obtain ⟨u2, hu2⟩ : ∃ y : fW, y = va_up u1 (am 1) (some (.inl (cs 0, 4, .inl (upd (M 1) a b)))) := ⟨_, rfl⟩
  have hM := hM.set 1 (Or.inl (by decide)) (upd (M 1) a b)
  have hF : fw_P D cls10 A u2 H := by rw [hu2]; exact hF
  have hM : MWd cs am (va_up (va_up M 0 (upd (M 0) a 1)) 1 (upd (M 1) a b), R, wy, an) u2 := by rw [hu2]; exact hM
  refine lv_aload_n hx hb dX9_build_14 rfl (lv_at hl 0 rfl) ?_
  refine lv_iload_n hx hb dX9_build_15 rfl (lv_at hl 1 rfl) ?_
  refine fw_callV (As := [.int (nI a)]) (rest := []) X bs_all nw_all mf_X9_strip (c_X9_strip l D cs _ _ am (va_up (va_up M 0 (upd (M 0) a 1)) 1 (upd (M 1) a b)) R wy an hM a ha) wm_586 wm_588 wm_9 hF hS rfl hM.2.1 rfl rfl ((⟨⟨Nat.le_of_ble_eq_true rfl, Nat.le_of_ble_eq_true rfl⟩, Nat.le_of_ble_eq_true rfl, Nat.le_of_ble_eq_true rfl⟩)) rfl hl.1 rfl (Nat.le_of_ble_eq_true rfl) dX9_build_16 (fun v u3 H locs hp hF hS hz1 hk1 hd1 => ?_)
  obtain ⟨hv1, hM⟩ := hp
  subst hv1
  have hM : MWd cs am (va_up (va_up (va_up (va_up M 0 (upd (M 0) a 1)) 1 (upd (M 1) a b)) 2 (upd (upd (M 2) (2 * a) (-1)) (2 * a + 1) (-1))) 3 (upd (M 3) a 0), R, wy, 1) u3 := hM
  refine W.eq (g2 := F0 m 19 ls []) rfl ?_
  refine lv_aload_n hx hb dX9_build_19 rfl (lv_at hl 0 rfl) ?_
  refine lv_iload_n hx hb dX9_build_20 rfl (lv_at hl 2 rfl) ?_
  refine fw_put X gC_ok hF hS hM.2.1 rfl 27 (by decide) wm_506 rfl (tf := .int) (by decide +kernel) rfl rfl (Nat.le_of_ble_eq_true rfl) dX9_build_21 (fun H locs hF hS => ?_)
  obtain ⟨u4, hu4⟩ : ∃ y : fW, y = va_up u3 (am 28) (some (mObj am (va_up (va_up (va_up (va_up M 0 (upd (M 0) a 1)) 1 (upd (M 1) a b)) 2 (upd (upd (M 2) (2 * a) (-1)) (2 * a + 1) (-1))) 3 (upd (M 3) a 0), R, wy, b))) := ⟨_, rfl⟩
  have hM := hM.obj R wy b
  have hF : fw_P D cls10 A u4 H := by rw [hu4]; exact hF
  have hM : MWd cs am (va_up (va_up (va_up (va_up M 0 (upd (M 0) a 1)) 1 (upd (M 1) a b)) 2 (upd (upd (M 2) (2 * a) (-1)) (2 * a + 1) (-1))) 3 (upd (M 3) a 0), R, wy, b) u4 := by rw [hu4]; exact hM
  refine fw_vret X hF hS ?_ (Nat.le_of_ble_eq_true rfl) (Nat.le_of_ble_eq_true rfl) dX9_build_24
  exact ⟨rfl, hM⟩
set_option maxHeartbeats 4000000 in
set_option maxRecDepth 100000 in
theorem c_X9_light (l : Launch) (D : va_G) (cs : Nat → ClassId) (w : fW) (sz : Nat) (am : Nat → Nat) (M : Nat → Nat → Int32) (R : aRe) (wy an : Int32) (hM : MWd cs am (M, R, wy, an) w) (a : Nat) (b k : Int32) (ha : a < 4) : gM l bs_B nw_B D cls10 (tyl cs) yX9_light cX9_light 4 none 1 21 0 0 w sz [.ref (am 28), .int (nI a), .int b, .int k] (fun v w' => (M 0 a = 0 ∧ v = none ∧ MWd cs am (M, R, 1, 0) w') ∨ (¬ M 0 a = 0 ∧ v = none ∧ MWd cs am (va_up (va_up M 3 (upd (M 3) a (lmp b))) 4 (upd (M 4) a k), R, wy, b) w')) := by
  refine gM.of (by decide +kernel) (Nat.le_of_ble_eq_true rfl) (fun p e s m below meth c A ls X hsz hnm hF hS hl => ?_)
  have hx := X.1
  have hb := X.2.1
  have hl : lv_has ls 4 [(0, .ref (am 28)), (1, .int (nI a)), (2, .int b), (3, .int k)] := hl
  refine lv_aload_n hx hb dX9_light_0 rfl (lv_at hl 0 rfl) ?_
  refine fw_get (v := .ref (am 0)) X gC_ok hF hM.2.1 rfl 0 (by decide) wm_479 rfl dX9_light_1 ?_
  refine lv_iload_n hx hb dX9_light_4 rfl (lv_at hl 1 rfl) ?_
  refine fw_zald X hF (hM.2.2 0 (Or.inl (by decide))) 1 rfl (show vp_in (nI a) 4 from vp_in_nI (by omega) (by decide)) (v := (M 0) a) (by rw [nI_clamp (by omega)] <;> rfl) dX9_light_5 ?_
  refine lv_if_ne (tgt := 15) hx hb dX9_light_6 (by decide) (fun c6_1 => ?_) (fun c6_1 => ?_)
  · refine lv_aload_n hx hb dX9_light_15 rfl (lv_at hl 0 rfl) ?_
    refine fw_get (v := .ref (am 3)) X gC_ok hF hM.2.1 rfl 3 (by decide) wm_482 rfl dX9_light_16 ?_
    refine lv_iload_n hx hb dX9_light_19 rfl (lv_at hl 1 rfl) ?_
    refine lv_iload_n hx hb dX9_light_20 rfl (lv_at hl 2 rfl) ?_
    refine lv_if_ne (tgt := 28) hx hb dX9_light_21 (by decide) (fun c21_2 => ?_) (fun c21_2 => ?_)
    · refine lv_iload_n hx hb dX9_light_28 rfl (lv_at hl 2 rfl) ?_
      refine lv_iconst (v := 1) hx hb dX9_light_29 (by decide) ?_
      refine lv_icmp_ne (tgt := 37) hx hb dX9_light_30 (by decide) (fun c30_3 => ?_) (fun c30_3 => ?_)
      · refine lv_iconst (v := 2) hx hb dX9_light_37 (by decide) ?_
        refine fw_iast X hF hS (hM.2.2 3 (Or.inl (by decide))) 0 rfl (show vp_in (nI a) 4 from vp_in_nI (by omega) (by decide)) dX9_light_38 (fun H locs hF hS => ?_)
        rw [show (nI a).toNatClampNeg = a from nI_clamp (by omega)] at hF
        obtain ⟨u4, hu4⟩ : ∃ y : fW, y = va_up w (am 3) (some (.inl (cs 0, 4, .inl (upd (M 3) a 2)))) := ⟨_, rfl⟩
        have hM := hM.set 3 (Or.inl (by decide)) (upd (M 3) a 2)
        have hF : fw_P D cls10 A u4 H := by rw [hu4]; exact hF
        have hM : MWd cs am (va_up M 3 (upd (M 3) a 2), R, wy, an) u4 := by rw [hu4]; exact hM
        refine lv_aload_n hx hb dX9_light_39 rfl (lv_at hl 0 rfl) ?_
        refine fw_get (v := .ref (am 4)) X gC_ok hF hM.2.1 rfl 4 (by decide) wm_483 rfl dX9_light_40 ?_
        refine lv_iload_n hx hb dX9_light_43 rfl (lv_at hl 1 rfl) ?_
        refine lv_iload_n hx hb dX9_light_44 rfl (lv_at hl 3 rfl) ?_
        refine fw_iast X hF hS (hM.2.2 4 (Or.inl (by decide))) 0 rfl (show vp_in (nI a) 4 from vp_in_nI (by omega) (by decide)) dX9_light_45 (fun H locs hF hS => ?_)
        rw [show (nI a).toNatClampNeg = a from nI_clamp (by omega)] at hF
        obtain ⟨u5, hu5⟩ : ∃ y : fW, y = va_up u4 (am 4) (some (.inl (cs 0, 4, .inl (upd (M 4) a k)))) := ⟨_, rfl⟩
        have hM := hM.set 4 (Or.inl (by decide)) (upd (M 4) a k)
        have hF : fw_P D cls10 A u5 H := by rw [hu5]; exact hF
        have hM : MWd cs am (va_up (va_up M 3 (upd (M 3) a 2)) 4 (upd (M 4) a k), R, wy, an) u5 := by rw [hu5]; exact hM
        refine lv_aload_n hx hb dX9_light_46 rfl (lv_at hl 0 rfl) ?_
        refine lv_iload_n hx hb dX9_light_47 rfl (lv_at hl 2 rfl) ?_
        refine fw_put X gC_ok hF hS hM.2.1 rfl 27 (by decide) wm_506 rfl (tf := .int) (by decide +kernel) rfl rfl (Nat.le_of_ble_eq_true rfl) dX9_light_48 (fun H locs hF hS => ?_)
        obtain ⟨u6, hu6⟩ : ∃ y : fW, y = va_up u5 (am 28) (some (mObj am (va_up (va_up M 3 (upd (M 3) a 2)) 4 (upd (M 4) a k), R, wy, b))) := ⟨_, rfl⟩
        have hM := hM.obj R wy b
        have hF : fw_P D cls10 A u6 H := by rw [hu6]; exact hF
        have hM : MWd cs am (va_up (va_up M 3 (upd (M 3) a 2)) 4 (upd (M 4) a k), R, wy, b) u6 := by rw [hu6]; exact hM
        refine fw_vret X hF hS ?_ (Nat.le_of_ble_eq_true rfl) (Nat.le_of_ble_eq_true rfl) dX9_light_51
        refine Or.inr ⟨c6_1, rfl, ?_⟩
        simpa [lmp, c21_2, c30_3] using hM
      · refine lv_iconst (v := 1) hx hb dX9_light_33 (by decide) ?_
        refine lv_goto (tgt := 38) hx hb dX9_light_34 (by decide) ?_
        refine fw_iast X hF hS (hM.2.2 3 (Or.inl (by decide))) 0 rfl (show vp_in (nI a) 4 from vp_in_nI (by omega) (by decide)) dX9_light_38 (fun H locs hF hS => ?_)
        rw [show (nI a).toNatClampNeg = a from nI_clamp (by omega)] at hF
        obtain ⟨u7, hu7⟩ : ∃ y : fW, y = va_up w (am 3) (some (.inl (cs 0, 4, .inl (upd (M 3) a 1)))) := ⟨_, rfl⟩
        have hM := hM.set 3 (Or.inl (by decide)) (upd (M 3) a 1)
        have hF : fw_P D cls10 A u7 H := by rw [hu7]; exact hF
        have hM : MWd cs am (va_up M 3 (upd (M 3) a 1), R, wy, an) u7 := by rw [hu7]; exact hM
        refine lv_aload_n hx hb dX9_light_39 rfl (lv_at hl 0 rfl) ?_
        refine fw_get (v := .ref (am 4)) X gC_ok hF hM.2.1 rfl 4 (by decide) wm_483 rfl dX9_light_40 ?_
        refine lv_iload_n hx hb dX9_light_43 rfl (lv_at hl 1 rfl) ?_
        refine lv_iload_n hx hb dX9_light_44 rfl (lv_at hl 3 rfl) ?_
        refine fw_iast X hF hS (hM.2.2 4 (Or.inl (by decide))) 0 rfl (show vp_in (nI a) 4 from vp_in_nI (by omega) (by decide)) dX9_light_45 (fun H locs hF hS => ?_)
        rw [show (nI a).toNatClampNeg = a from nI_clamp (by omega)] at hF
        obtain ⟨u8, hu8⟩ : ∃ y : fW, y = va_up u7 (am 4) (some (.inl (cs 0, 4, .inl (upd (M 4) a k)))) := ⟨_, rfl⟩
        have hM := hM.set 4 (Or.inl (by decide)) (upd (M 4) a k)
        have hF : fw_P D cls10 A u8 H := by rw [hu8]; exact hF
        have hM : MWd cs am (va_up (va_up M 3 (upd (M 3) a 1)) 4 (upd (M 4) a k), R, wy, an) u8 := by rw [hu8]; exact hM
        refine lv_aload_n hx hb dX9_light_46 rfl (lv_at hl 0 rfl) ?_
        refine lv_iload_n hx hb dX9_light_47 rfl (lv_at hl 2 rfl) ?_
        refine fw_put X gC_ok hF hS hM.2.1 rfl 27 (by decide) wm_506 rfl (tf := .int) (by decide +kernel) rfl rfl (Nat.le_of_ble_eq_true rfl) dX9_light_48 (fun H locs hF hS => ?_)
        obtain ⟨u9, hu9⟩ : ∃ y : fW, y = va_up u8 (am 28) (some (mObj am (va_up (va_up M 3 (upd (M 3) a 1)) 4 (upd (M 4) a k), R, wy, b))) := ⟨_, rfl⟩
        have hM := hM.obj R wy b
        have hF : fw_P D cls10 A u9 H := by rw [hu9]; exact hF
        have hM : MWd cs am (va_up (va_up M 3 (upd (M 3) a 1)) 4 (upd (M 4) a k), R, wy, b) u9 := by rw [hu9]; exact hM
        refine fw_vret X hF hS ?_ (Nat.le_of_ble_eq_true rfl) (Nat.le_of_ble_eq_true rfl) dX9_light_51
        refine Or.inr ⟨c6_1, rfl, ?_⟩
        simpa [lmp, c21_2, c30_3] using hM
    · refine lv_iconst (v := 0) hx hb dX9_light_24 (by decide) ?_
      refine lv_goto (tgt := 38) hx hb dX9_light_25 (by decide) ?_
      refine fw_iast X hF hS (hM.2.2 3 (Or.inl (by decide))) 0 rfl (show vp_in (nI a) 4 from vp_in_nI (by omega) (by decide)) dX9_light_38 (fun H locs hF hS => ?_)
      rw [show (nI a).toNatClampNeg = a from nI_clamp (by omega)] at hF
      obtain ⟨u10, hu10⟩ : ∃ y : fW, y = va_up w (am 3) (some (.inl (cs 0, 4, .inl (upd (M 3) a 0)))) := ⟨_, rfl⟩
      have hM := hM.set 3 (Or.inl (by decide)) (upd (M 3) a 0)
      have hF : fw_P D cls10 A u10 H := by rw [hu10]; exact hF
      have hM : MWd cs am (va_up M 3 (upd (M 3) a 0), R, wy, an) u10 := by rw [hu10]; exact hM
      refine lv_aload_n hx hb dX9_light_39 rfl (lv_at hl 0 rfl) ?_
      refine fw_get (v := .ref (am 4)) X gC_ok hF hM.2.1 rfl 4 (by decide) wm_483 rfl dX9_light_40 ?_
      refine lv_iload_n hx hb dX9_light_43 rfl (lv_at hl 1 rfl) ?_
      refine lv_iload_n hx hb dX9_light_44 rfl (lv_at hl 3 rfl) ?_
      refine fw_iast X hF hS (hM.2.2 4 (Or.inl (by decide))) 0 rfl (show vp_in (nI a) 4 from vp_in_nI (by omega) (by decide)) dX9_light_45 (fun H locs hF hS => ?_)
      rw [show (nI a).toNatClampNeg = a from nI_clamp (by omega)] at hF
      obtain ⟨u11, hu11⟩ : ∃ y : fW, y = va_up u10 (am 4) (some (.inl (cs 0, 4, .inl (upd (M 4) a k)))) := ⟨_, rfl⟩
      have hM := hM.set 4 (Or.inl (by decide)) (upd (M 4) a k)
      have hF : fw_P D cls10 A u11 H := by rw [hu11]; exact hF
      have hM : MWd cs am (va_up (va_up M 3 (upd (M 3) a 0)) 4 (upd (M 4) a k), R, wy, an) u11 := by rw [hu11]; exact hM
      refine lv_aload_n hx hb dX9_light_46 rfl (lv_at hl 0 rfl) ?_
      refine lv_iload_n hx hb dX9_light_47 rfl (lv_at hl 2 rfl) ?_
      refine fw_put X gC_ok hF hS hM.2.1 rfl 27 (by decide) wm_506 rfl (tf := .int) (by decide +kernel) rfl rfl (Nat.le_of_ble_eq_true rfl) dX9_light_48 (fun H locs hF hS => ?_)
      obtain ⟨u12, hu12⟩ : ∃ y : fW, y = va_up u11 (am 28) (some (mObj am (va_up (va_up M 3 (upd (M 3) a 0)) 4 (upd (M 4) a k), R, wy, b))) := ⟨_, rfl⟩
      have hM := hM.obj R wy b
      have hF : fw_P D cls10 A u12 H := by rw [hu12]; exact hF
      have hM : MWd cs am (va_up (va_up M 3 (upd (M 3) a 0)) 4 (upd (M 4) a k), R, wy, b) u12 := by rw [hu12]; exact hM
      refine fw_vret X hF hS ?_ (Nat.le_of_ble_eq_true rfl) (Nat.le_of_ble_eq_true rfl) dX9_light_51
      refine Or.inr ⟨c6_1, rfl, ?_⟩
      simpa [lmp, c21_2] using hM
  · refine lv_aload_n hx hb dX9_light_9 rfl (lv_at hl 0 rfl) ?_
    refine lv_iconst (v := 1) hx hb dX9_light_10 (by decide) ?_
    refine fw_callV (As := [.int 1]) (rest := []) X bs_all nw_all mf_X9_fails (c_X9_fails l D cs _ _ am M R wy an hM 1) wm_594 wm_596 wm_11 hF hS rfl hM.2.1 rfl rfl ((⟨⟨Nat.le_of_ble_eq_true rfl, Nat.le_of_ble_eq_true rfl⟩, Nat.le_of_ble_eq_true rfl, Nat.le_of_ble_eq_true rfl⟩)) rfl hl.1 rfl (Nat.le_of_ble_eq_true rfl) dX9_light_11 (fun v u13 H locs hp hF hS hz1 hk1 hd1 => ?_)
    obtain ⟨hv1, hM⟩ := hp
    subst hv1
    have hM : MWd cs am (M, R, 1, 0) u13 := hM
    refine W.eq (g2 := F0 m 14 ls []) rfl ?_
    refine fw_vret X hF hS ?_ (Nat.le_of_ble_eq_true rfl) (Nat.le_of_ble_eq_true rfl) dX9_light_14
    exact Or.inl ⟨c6_1, rfl, hM⟩
