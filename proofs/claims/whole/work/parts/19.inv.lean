theorem lenI.of {b : Int32} (h1 : ¬ b < 0) (h2 : b ≤ 12) : lenI b := by
  refine ⟨?_, h2⟩
  have a1 := Int32.le_iff_toInt_le.mp (i_nlt.mp h1)
  have e1 : (0 : Int32).toInt = 0 := rfl
  have e2 : (-1 : Int32).toInt = -1 := rfl
  exact Int32.le_iff_toInt_le.mpr (by omega)
theorem stI.wh {T : Sg} {x : aS} {q : Nat} {y : aWh} (h : stI T x) : stI (setWh T q y) x := by
  have m : ∀ r, (tWh T r).isSome = true → (tWh (setWh T q y) r).isSome = true := by
    intro r hr
    rw [gWh]
    by_cases e : r = q
    · subst e; rw [va_up_self]; rfl
    · rw [va_up_ne _ _ e]; exact hr
  exact ⟨fun r hr => m r (h.1 r hr), fun r hr => m r (h.2.1 r hr), h.2.2.1, h.2.2.2.1, h.2.2.2.2⟩
theorem Inv.wh {T : Sg} (h : Inv T) (q : Nat) (y : aWh) : Inv (setWh T q y) := by
  have m : ∀ r, (tWh T r).isSome = true → (tWh (setWh T q y) r).isSome = true := by
    intro r hr
    rw [gWh]
    by_cases e : r = q
    · subst e; rw [va_up_self]; rfl
    · rw [va_up_ne _ _ e]; exact hr
  exact ⟨fun i hi => (h.1 i hi).wh, h.2.1, fun i hi => ⟨(h.2.2.1 i hi).1, fun j r hj hr => m r ((h.2.2.1 i hi).2 j r hj hr)⟩, h.2.2.2.1, h.2.2.2.2.1, h.2.2.2.2.2⟩
theorem Inv.st {T : Sg} (h : Inv T) {i : Nat} {x : aS} (hx : stI T x) : Inv (setSt T i x) := by
  refine ⟨fun j hj => ?_, h.2.1, h.2.2.1, h.2.2.2.1, h.2.2.2.2.1, h.2.2.2.2.2⟩
  rw [gSt]
  by_cases e : j = i
  · subst e; rw [va_up_self]; exact hx
  · rw [va_up_ne _ _ e]; exact h.1 j hj
theorem Inv.ba {T : Sg} (h : Inv T) {i : Nat} {x : aBa} (hx : lenI x.1) : Inv (setBa T i x) := by
  refine ⟨h.1, fun j hj => ?_, h.2.2.1, h.2.2.2.1, h.2.2.2.2.1, h.2.2.2.2.2⟩
  rw [gBa]
  by_cases e : j = i
  · subst e; rw [va_up_self]; exact hx
  · rw [va_up_ne _ _ e]; exact h.2.1 j hj
theorem Inv.ra {T : Sg} (h : Inv T) {i : Nat} {x : aRa} (hx : lenI x.1) (hp : ∀ j q, j < 12 → x.2.2 j = some q → (tWh T q).isSome = true) : Inv (setRa T i x) := by
  refine ⟨h.1, h.2.1, fun j hj => ?_, h.2.2.2.1, h.2.2.2.2.1, h.2.2.2.2.2⟩
  rw [gRa]
  by_cases e : j = i
  · subst e; rw [va_up_self]; exact ⟨hx, hp⟩
  · rw [va_up_ne _ _ e]; exact h.2.2.1 j hj
theorem Inv.gr {T : Sg} (h : Inv T) {i : Nat} {x : aGr} (hx : lenI x.1) (h0 : 0 ≤ x.2.1) (h1 : x.2.1 ≤ 12) : Inv (setGr T i x) := by
  refine ⟨h.1, h.2.1, h.2.2.1, fun j hj => ?_, h.2.2.2.2.1, h.2.2.2.2.2⟩
  rw [gGr]
  by_cases e : j = i
  · subst e; rw [va_up_self]; exact ⟨hx, h0, h1⟩
  · rw [va_up_ne _ _ e]; exact h.2.2.2.1 j hj
theorem Inv.ex {T : Sg} (h : Inv T) {i : Nat} {x : Int32} (hx : exI x) : Inv (setEx T (upd (tEx T) i x)) := by
  refine ⟨h.1, h.2.1, h.2.2.1, h.2.2.2.1, h.2.2.2.2.1, fun j hj => ?_⟩
  show exI (upd (tEx T) i x j)
  unfold upd
  split
  · exact hx
  · exact h.2.2.2.2.2 j hj
theorem Inv.jo {T : Sg} (h : Inv T) {i : Nat} {x : aJo} (h0 : 0 ≤ x.1) (h1 : x.1 ≤ 16) (hp : ∀ k, k < ix x.1 → spI (x.2 k)) : Inv (setJo T i x) := by
  refine ⟨h.1, h.2.1, h.2.2.1, h.2.2.2.1, fun j hj => ?_, h.2.2.2.2.2⟩
  rw [gJo]
  by_cases e : j = i
  · subst e; rw [va_up_self]; exact ⟨h0, h1, hp⟩
  · rw [va_up_ne _ _ e]; exact h.2.2.2.2.1 j hj
theorem stI.sd {T : Sg} {x : aS} (h : stI T x) (hb : ¬ x.1 = false) {b : Int32} {o : Option Nat} (ho : ∀ q, o = some q → (tWh T q).isSome = true) : stI T (sdset b x o) := by
  unfold sdset
  split
  · exact ⟨ho, h.2.1, fun z => absurd z hb, h.2.2.2.1, h.2.2.2.2⟩
  · exact ⟨h.1, ho, fun z => absurd z hb, h.2.2.2.1, h.2.2.2.2⟩
theorem lmp_c (b : Int32) : lmp b = 0 ∨ lmp b = 1 ∨ lmp b = 2 := by unfold lmp; split; exact Or.inl rfl; split; exact Or.inr (Or.inl rfl); exact Or.inr (Or.inr rfl)
theorem stI.li {T : Sg} {x : aS} (h : stI T x) (b k : Int32) : stI T (spLight x b k).2 := by
  unfold spLight
  by_cases hb : x.1 = false
  · rw [if_pos hb]; exact h
  · rw [if_neg hb]
    exact ⟨h.1, h.2.1, fun z => absurd z hb, lmp_c b, fun z => if_neg z⟩
theorem stI.sh {T : Sg} {x : aS} (h : stI T x) (b : Int32) : stI T (spShine x b).2 := by
  unfold spShine
  by_cases h0 : x.2.2.2.2.1 = 0
  · rw [if_pos h0]; exact h
  rw [if_neg h0]
  by_cases h1 : x.2.2.2.2.1 = 1
  · rw [if_pos h1]; exact h
  rw [if_neg h1]
  by_cases h2 : 0 < x.2.2.2.2.2
  · rw [if_pos h2]
    refine ⟨h.1, h.2.1, fun z => ?_, h.2.2.2.1, fun z => ?_⟩
    · have := h.2.2.1 z
      rw [this] at h0
      exact absurd rfl h0
    · rcases h.2.2.2.1 with y | y | y
      · exact absurd y h0
      · exact absurd y h1
      · exact absurd y z
  · rw [if_neg h2]; exact h
theorem exI.of (b : Int32) : exI (excI b) := by unfold excI; split; exact Or.inl rfl; split; exact Or.inr (Or.inl rfl); exact Or.inr (Or.inr rfl)
theorem spDo_c {P : (Int32 × Int32) × Sg → Prop} (q : Nat) (k a b d : Int32) (T : Sg) (c0 : k = 0 → P (((0, b), setSt T (ix a) (true, b, none, none, 0, 0)))) (c1 : k = 1 → P (((0, 1), setSt T (ix a) (false, 0, none, none, 0, 0)))) (c2 : k = 2 → P (spFit q a b d T)) (c3 : k = 3 → P (spTrue b (tSt T (ix a)) T)) (c4 : k = 4 → P (spCount b (tSt T (ix a)) T)) (c5 : k = 5 → P (((spLight (tSt T (ix a)) b d).1, setSt T (ix a) (spLight (tSt T (ix a)) b d).2))) (c6 : k = 6 → P (((spShine (tSt T (ix a)) b).1, setSt T (ix a) (spShine (tSt T (ix a)) b).2))) (c7 : k = 7 → P ((if b < 0 then ((2, 0), T) else ((0, b), setBa T (ix a) (b, fun _ => 0))))) (c8 : k = 8 → P ((if b < 0 then ((2, 0), T) else ((0, b), setRa T (ix a) (b, !decide (d &&& 1 = 0), fun _ => none))))) (c9 : k = 9 → P ((if b < 0 ∨ d < 0 then ((2, 0), T) else ((0, b), setGr T (ix a) (b, d, fun _ => 0))))) (c10 : k = 10 → P ((spLong a b d T, T))) (c11 : k = 11 → P (spPut a b d T)) (c12 : k = 12 → P (spAdd a b d T)) (c13 : k = 13 → P (spHang a b d T)) (c14 : k = 14 → P (spBal a b T)) (c15 : k = 15 → P (((0, b), setEx T (upd (tEx T) (ix a) (excI b))))) (c16 : ¬ k = 0 → ¬ k = 1 → ¬ k = 2 → ¬ k = 3 → ¬ k = 4 → ¬ k = 5 → ¬ k = 6 → ¬ k = 7 → ¬ k = 8 → ¬ k = 9 → ¬ k = 10 → ¬ k = 11 → ¬ k = 12 → ¬ k = 13 → ¬ k = 14 → ¬ k = 15 → P ((if b = 0 then (0, 0) else (tEx T (ix a), 0), T))) : P (spDo q k a b d T) := by
  unfold spDo
  by_cases h0 : k = 0
  · rw [if_pos h0]; exact c0 h0
  rw [if_neg h0]
  by_cases h1 : k = 1
  · rw [if_pos h1]; exact c1 h1
  rw [if_neg h1]
  by_cases h2 : k = 2
  · rw [if_pos h2]; exact c2 h2
  rw [if_neg h2]
  by_cases h3 : k = 3
  · rw [if_pos h3]; exact c3 h3
  rw [if_neg h3]
  by_cases h4 : k = 4
  · rw [if_pos h4]; exact c4 h4
  rw [if_neg h4]
  by_cases h5 : k = 5
  · rw [if_pos h5]; exact c5 h5
  rw [if_neg h5]
  by_cases h6 : k = 6
  · rw [if_pos h6]; exact c6 h6
  rw [if_neg h6]
  by_cases h7 : k = 7
  · rw [if_pos h7]; exact c7 h7
  rw [if_neg h7]
  by_cases h8 : k = 8
  · rw [if_pos h8]; exact c8 h8
  rw [if_neg h8]
  by_cases h9 : k = 9
  · rw [if_pos h9]; exact c9 h9
  rw [if_neg h9]
  by_cases h10 : k = 10
  · rw [if_pos h10]; exact c10 h10
  rw [if_neg h10]
  by_cases h11 : k = 11
  · rw [if_pos h11]; exact c11 h11
  rw [if_neg h11]
  by_cases h12 : k = 12
  · rw [if_pos h12]; exact c12 h12
  rw [if_neg h12]
  by_cases h13 : k = 13
  · rw [if_pos h13]; exact c13 h13
  rw [if_neg h13]
  by_cases h14 : k = 14
  · rw [if_pos h14]; exact c14 h14
  rw [if_neg h14]
  by_cases h15 : k = 15
  · rw [if_pos h15]; exact c15 h15
  rw [if_neg h15]
  exact c16 h0 h1 h2 h3 h4 h5 h6 h7 h8 h9 h10 h11 h12 h13 h14 h15
theorem do_jo (q : Nat) (k a b d : Int32) (T : Sg) : tJo (spDo q k a b d T).2 = tJo T := by
  refine spDo_c (P := fun r => tJo r.2 = tJo T) q k a b d T ?_ ?_ ?_ ?_ ?_ ?_ ?_ ?_ ?_ ?_ ?_ ?_ ?_ ?_ ?_ ?_ ?_
  · intro h0
    rfl
  · intro h1
    rfl
  · intro h2
    unfold spFit
    split
    · rfl
    · split <;> rfl
  · intro h3
    unfold spTrue
    split <;> rfl
  · intro h4
    unfold spCount
    split <;> rfl
  · intro h5
    rfl
  · intro h6
    rfl
  · intro h7
    split <;> rfl
  · intro h8
    split <;> rfl
  · intro h9
    split <;> rfl
  · intro h10
    rfl
  · intro h11
    unfold spPut
    split
    · rfl
    · split <;> rfl
  · intro h12
    unfold spAdd
    split
    · rfl
    · split <;> rfl
  · intro h13
    unfold spHang
    split
    · rfl
    · split
      · split <;> rfl
      · rfl
  · intro h14
    unfold spBal
    split
    · rfl
    · split
      · split
        · rfl
        · split <;> rfl
      · rfl
  · intro h15
    rfl
  · intro _ _ _ _ _ _ _ _ _ _ _ _ _ _ _ _
    rfl
theorem do_re (q : Nat) (k a b d : Int32) (T : Sg) : tRe (spDo q k a b d T).2 = tRe T := by
  refine spDo_c (P := fun r => tRe r.2 = tRe T) q k a b d T ?_ ?_ ?_ ?_ ?_ ?_ ?_ ?_ ?_ ?_ ?_ ?_ ?_ ?_ ?_ ?_ ?_
  · intro h0
    rfl
  · intro h1
    rfl
  · intro h2
    unfold spFit
    split
    · rfl
    · split <;> rfl
  · intro h3
    unfold spTrue
    split <;> rfl
  · intro h4
    unfold spCount
    split <;> rfl
  · intro h5
    rfl
  · intro h6
    rfl
  · intro h7
    split <;> rfl
  · intro h8
    split <;> rfl
  · intro h9
    split <;> rfl
  · intro h10
    rfl
  · intro h11
    unfold spPut
    split
    · rfl
    · split <;> rfl
  · intro h12
    unfold spAdd
    split
    · rfl
    · split <;> rfl
  · intro h13
    unfold spHang
    split
    · rfl
    · split
      · split <;> rfl
      · rfl
  · intro h14
    unfold spBal
    split
    · rfl
    · split
      · split
        · rfl
        · split <;> rfl
      · rfl
  · intro h15
    rfl
  · intro _ _ _ _ _ _ _ _ _ _ _ _ _ _ _ _
    rfl
theorem do_ta (q : Nat) (k a b d : Int32) (T : Sg) : tTa (spDo q k a b d T).2 = tTa T := by
  refine spDo_c (P := fun r => tTa r.2 = tTa T) q k a b d T ?_ ?_ ?_ ?_ ?_ ?_ ?_ ?_ ?_ ?_ ?_ ?_ ?_ ?_ ?_ ?_ ?_
  · intro h0
    rfl
  · intro h1
    rfl
  · intro h2
    unfold spFit
    split
    · rfl
    · split <;> rfl
  · intro h3
    unfold spTrue
    split <;> rfl
  · intro h4
    unfold spCount
    split <;> rfl
  · intro h5
    rfl
  · intro h6
    rfl
  · intro h7
    split <;> rfl
  · intro h8
    split <;> rfl
  · intro h9
    split <;> rfl
  · intro h10
    rfl
  · intro h11
    unfold spPut
    split
    · rfl
    · split <;> rfl
  · intro h12
    unfold spAdd
    split
    · rfl
    · split <;> rfl
  · intro h13
    unfold spHang
    split
    · rfl
    · split
      · split <;> rfl
      · rfl
  · intro h14
    unfold spBal
    split
    · rfl
    · split
      · split
        · rfl
        · split <;> rfl
      · rfl
  · intro h15
    rfl
  · intro _ _ _ _ _ _ _ _ _ _ _ _ _ _ _ _
    rfl
theorem Inv.dos {q : Nat} {k a b d : Int32} {T : Sg} (hI : Inv T) (hok : okS k a b d = true) : Inv (spDo q k a b d T).2 := by
  have hA : ix a < 4 := wi_lt (ok_a hok) (N := 4) (by decide)
  refine spDo_c (P := fun r => Inv r.2) q k a b d T ?_ ?_ ?_ ?_ ?_ ?_ ?_ ?_ ?_ ?_ ?_ ?_ ?_ ?_ ?_ ?_ ?_
  · intro h0
    exact hI.st ⟨(fun r h => by cases h), (fun r h => by cases h), (fun h => by cases h), Or.inl rfl, fun _ => rfl⟩
  · intro h1
    exact hI.st ⟨(fun r h => by cases h), (fun r h => by cases h), fun _ => rfl, Or.inl rfl, fun _ => rfl⟩
  · intro h2
    unfold spFit
    by_cases z0 : (tSt T (ix a)).1 = false
    · rw [if_pos z0]; exact hI
    rw [if_neg z0]
    by_cases z1 : d = 0
    · rw [if_pos z1]; exact hI.st ((hI.1 _ hA).sd z0 (fun r h => by cases h))
    rw [if_neg z1]
    refine (hI.wh q (whN d)).st (stI.sd ((hI.1 _ hA).wh) z0 (fun r h => ?_))
    cases h
    rw [gWh, va_up_self]
    rfl
  · intro h3
    unfold spTrue
    split
    · exact hI
    · exact hI.wh _ _
  · intro h4
    unfold spCount
    split <;> exact hI
  · intro h5
    exact hI.st ((hI.1 _ hA).li _ _)
  · intro h6
    exact hI.st ((hI.1 _ hA).sh _)
  · intro h7
    subst h7
    by_cases z0 : b < 0
    · rw [if_pos z0]; exact hI
    rw [if_neg z0]
    exact hI.ba (lenI.of z0 (ok_7 hok))
  · intro h8
    subst h8
    by_cases z0 : b < 0
    · rw [if_pos z0]; exact hI
    rw [if_neg z0]
    exact hI.ra (lenI.of z0 (ok_8 hok)) (fun j r _ h => by cases h)
  · intro h9
    subst h9
    by_cases z0 : b < 0 ∨ d < 0
    · rw [if_pos z0]; exact hI
    rw [if_neg z0]
    exact hI.gr (lenI.of (fun z => z0 (Or.inl z)) (ok_9 hok).1) (i_nlt.mp (fun z => z0 (Or.inr z))) (ok_9 hok).2
  · intro h10
    exact hI
  · intro h11
    unfold spPut
    by_cases z0 : (tBa T (ix a)).1 = -1
    · rw [if_pos z0]; exact hI
    rw [if_neg z0]
    by_cases z1 : wi b (tBa T (ix a)).1 = true
    · rw [if_pos z1]; exact hI.ba (hI.2.1 _ hA)
    · rw [if_neg z1]; exact hI
  · intro h12
    unfold spAdd
    by_cases z0 : (tGr T (ix a)).1 = -1
    · rw [if_pos z0]; exact hI
    rw [if_neg z0]
    by_cases z1 : (wi b (tGr T (ix a)).1 && wi d (tGr T (ix a)).2.1) = true
    · rw [if_pos z1]; exact hI.gr (hI.2.2.2.1 _ hA).1 (hI.2.2.2.1 _ hA).2.1 (hI.2.2.2.1 _ hA).2.2
    · rw [if_neg z1]; exact hI
  · intro h13
    subst h13
    unfold spHang
    by_cases z0 : (tRa T (ix a)).1 = -1 ∨ (tSt T (ix d)).1 = false
    · rw [if_pos z0]; exact hI
    rw [if_neg z0]
    by_cases z1 : wi b (tRa T (ix a)).1 = true
    · rw [if_pos z1]
      by_cases z2 : noStore T (tRa T (ix a)) (tSt T (ix d)) = true
      · rw [if_pos z2]; exact hI
      rw [if_neg z2]
      refine hI.ra (hI.2.2.1 _ hA).1 (fun j r hj h => ?_)
      by_cases e : j = ix b
      · subst e
        rw [show (((tRa T (ix a)).1, (tRa T (ix a)).2.1, va_up (tRa T (ix a)).2.2 (ix b) (tSt T (ix d)).2.2.1) : aRa).2.2 (ix b) = (tSt T (ix d)).2.2.1 from va_up_self _ _ _] at h
        exact (hI.1 _ (wi_lt (ok_13 hok) (N := 4) (by decide))).1 r h
      · rw [show (((tRa T (ix a)).1, (tRa T (ix a)).2.1, va_up (tRa T (ix a)).2.2 (ix b) (tSt T (ix d)).2.2.1) : aRa).2.2 j = (tRa T (ix a)).2.2 j from va_up_ne _ _ e] at h
        exact (hI.2.2.1 _ hA).2 j r hj h
    · rw [if_neg z1]; exact hI
  · intro h14
    unfold spBal
    split
    · exact hI
    · split
      · split
        · exact hI
        · split
          · exact hI.wh _ _
          · exact hI
      · exact hI
  · intro h15
    exact hI.ex (exI.of b)
  · intro _ _ _ _ _ _ _ _ _ _ _ _ _ _ _ _
    exact hI
theorem at_jo (q : Nat) (k a b d : Int32) (T : Sg) : tJo (spAt q k a b d T).2 = tJo T := by
  unfold spAt
  show tJo (if (spDo q k a b d T).1.1 = 0 then (spDo q k a b d T).2 else _) = tJo T
  split
  · exact do_jo q k a b d T
  · exact do_jo q k a b d T
theorem at_re (q : Nat) (k a b d : Int32) (T : Sg) : tRe (spAt q k a b d T).2 = tRe T := by
  unfold spAt
  show tRe (if (spDo q k a b d T).1.1 = 0 then (spDo q k a b d T).2 else _) = tRe T
  split
  · exact do_re q k a b d T
  · exact do_re q k a b d T
theorem Inv.ats {q : Nat} {k a b d : Int32} {T : Sg} (hI : Inv T) (hok : okS k a b d = true) : Inv (spAt q k a b d T).2 := by
  unfold spAt
  show Inv (if (spDo q k a b d T).1.1 = 0 then (spDo q k a b d T).2 else _)
  split
  · exact hI.dos hok
  · exact hI.dos hok
theorem Inv.re {T : Sg} (hI : Inv T) (x : aRe) : Inv (setRe T x) := hI
theorem go_jo (q : Nat) (x : aSp) (n : Int32) (T : Sg) : tJo (spGo q x n T).2 = tJo T := by
  rw [spGo_eq rfl]
  split
  · exact at_jo _ _ _ _ _ _
  · exact at_jo _ _ _ _ _ _
theorem Inv.gos {q : Nat} {x : aSp} {n : Int32} {T : Sg} (hI : Inv T) (hx : spI x) : Inv (spGo q x n T).2 := by
  rw [spGo_eq rfl]
  split
  · exact (hI.ats hx.1).re _
  · exact (hI.ats hx.1).re _
theorem in_jo (q j : Nat) (x : aSp) (T : Sg) : tJo (spIn q j x T).2 = tJo T := by
  unfold spIn
  split
  · exact go_jo _ _ _ _
  · rfl
theorem Inv.ins {q j : Nat} {x : aSp} {T : Sg} (hj : j < 4) (hI : Inv T) : Inv (spIn q j x T).2 := by
  unfold spIn
  split
  · rename_i z
    exact Inv.gos (T := stI1 T) hI ((hI.2.2.2.2.1 j hj).2.2 _ (ix_lt z))
  · exact hI
/-- a run, from its i-th step on, n steps more -/
def RunR (j : Nat) (way : Int32) : Nat → Nat → Sg → Sg → Prop
  | 0, _, T, T' => T' = T
  | n + 1, i, T, T' => ∃ q, tWh T q = none ∧ (if (spGo q ((tJo T j).2 i) (nI i) T).1 = true then RunR j way n (i + 1) (spGo q ((tJo T j).2 i) (nI i) T).2 T' else ∃ q2, tWh (spGo q ((tJo T j).2 i) (nI i) T).2 q2 = none ∧ (if (spIn q2 j ((tJo T j).2 i) (spGo q ((tJo T j).2 i) (nI i) T).2).1 = true ∨ way = 1 then RunR j way n (i + 1) (spIn q2 j ((tJo T j).2 i) (spGo q ((tJo T j).2 i) (nI i) T).2).2 T' else T' = (spIn q2 j ((tJo T j).2 i) (spGo q ((tJo T j).2 i) (nI i) T).2).2))
def T0r (T : Sg) : Sg := setRe T (0, 0, 0, -1, 0, 0)
