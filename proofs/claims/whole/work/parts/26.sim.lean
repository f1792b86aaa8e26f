theorem bz_0 {b : Bool} : bz b = 0 ↔ b = false := by cases b <;> decide
theorem slI_nm {sl : Nat → Nat} {o : Option Nat} (h : ¬ slI sl o = -1) : ∃ q, o = some q ∧ slI sl o = nI (sl q) := by
  cases o with
  | none => exact absurd rfl h
  | some q => exact ⟨q, rfl, rfl⟩
theorem MR.wheel {sl : Nat → Nat} {T : Sg} {M : Nat → Nat → Int32} (h : MR sl T M) {a : Nat} (ha : a < 4) (b : Int32) : M 2 (2 * a + sb b) = slI sl (sdw b (tSt T a).2.2.1 (tSt T a).2.2.2.1) := by
  unfold sb sdw
  split
  · exact (h.1 a ha).2.2.1
  · exact (h.1 a ha).2.2.2.1
theorem sd_liv {T : Sg} {a : Nat} (ha : a < 4) {b : Int32} {q : Nat} (h : sdw b (tSt T a).2.2.1 (tSt T a).2.2.2.1 = some q) : liv T q := by
  unfold sdw at h
  split at h
  · exact Or.inl ⟨a, ha, Or.inl h⟩
  · exact Or.inl ⟨a, ha, Or.inr h⟩
theorem slI_1 {sl : Nat → Nat} {T : Sg} {M : Nat → Nat → Int32} (h : MR sl T M) {o : Option Nat} (hl : ∀ q, o = some q → liv T q) : slI sl o = -1 ↔ o = none := by
  cases o with
  | none => exact ⟨fun _ => rfl, fun _ => rfl⟩
  | some q => exact ⟨fun e => absurd e (nI_nm1 (h.2.1 q (hl q rfl)).1), fun e => by cases e⟩
/-- where a stand's side is set -/
theorem sd_set {sl : Nat → Nat} {x : aS} {M : Nat → Nat → Int32} {a : Nat} (h : mStR sl x M a) (b : Int32) (o : Option Nat) {g : Nat → Int32} (hg : g = upd (M 2) (2 * a + sb b) (slI sl o)) : mStR sl (sdset b x o) (va_up M 2 g) a := by
  subst hg
  obtain ⟨h0, h1, h2, h3, h4, h5⟩ := h
  unfold sdset sb
  by_cases e : b &&& 1 = 0
  · rw [if_pos e, if_pos e]
    exact ⟨h0, h1, upd_s _ _ _, (upd_n _ _ (by omega)).trans h3, h4, h5⟩
  · rw [if_neg e, if_neg e]
    exact ⟨h0, h1, (upd_n _ _ (by omega)).trans h2, upd_s _ _ _, h4, h5⟩
theorem sd_o {M : Nat → Nat → Int32} {a : Nat} {b v : Int32} : ∀ i, i < 4 → i ≠ a → va_up M 2 (upd (M 2) (2 * a + sb b) v) 2 (2 * i) = M 2 (2 * i) ∧ va_up M 2 (upd (M 2) (2 * a + sb b) v) 2 (2 * i + 1) = M 2 (2 * i + 1) := by
  intro i _ hne
  have := sb_lt b
  exact ⟨upd_n _ _ (by omega), upd_n _ _ (by omega)⟩
theorem sdset_l {T : Sg} {a : Nat} (ha : a < 4) {b : Int32} {o : Option Nat} (ho : ∀ q, o = some q → liv T q) : ∀ q, (sdset b (tSt T a) o).2.2.1 = some q ∨ (sdset b (tSt T a) o).2.2.2.1 = some q → liv T q := by
  intro q hq
  unfold sdset at hq
  split at hq
  · rcases hq with hq | hq
    · exact ho q hq
    · exact Or.inl ⟨a, ha, Or.inr hq⟩
  · rcases hq with hq | hq
    · exact Or.inl ⟨a, ha, Or.inl hq⟩
    · exact ho q hq
/-- a side that becomes empty -/
theorem MR.fit0 {sl : Nat → Nat} {T : Sg} {M : Nat → Nat → Int32} (h : MR sl T M) {a : Nat} (ha : a < 4) (b : Int32) : MR sl (setSt T a (sdset b (tSt T a) none)) (va_up M 2 (upd (M 2) (2 * a + sb b) (-1))) := by
  refine h.st (fun k hk => va_up_ne _ _ (by omega)) (fun i hi hne => ⟨rfl, rfl, (sd_o i hi hne).1, (sd_o i hi hne).2, rfl, rfl⟩) (sd_set (h.1 a ha) b none rfl) (sdset_l ha (fun q z => by cases z))
theorem sd_2 (b : Int32) (x : aS) (o u : Option Nat) : sdset b (sdset b x o) u = sdset b x u := by
  unfold sdset
  by_cases e : b &&& 1 = 0
  · simp only [if_pos e]
  · simp only [if_neg e]
theorem set2 (T : Sg) (a : Nat) (x y : aS) : setSt (setSt T a x) a y = setSt T a y := congrArg (fun z : Nat → aS => ((z, tBa T, tRa T, tGr T, tJo T, tEx T, tTa T, tRe T, tWh T) : Sg)) (uu _ _ _ _)
/-- a new wheel in an empty side -/
theorem MR.fit1 {sl : Nat → Nat} {T : Sg} {M : Nat → Nat → Int32} (h : MR sl T M) (hI : Inv T) {a : Nat} (ha : a < 4) (b k : Int32) {q n : Nat} (hq : tWh T q = none) (hn : n < 100) (hun : mUsed (va_up M 2 (upd (M 2) (2 * a + sb b) (-1))) (nI n) = false) : MR (va_up sl q n) (setSt (setWh T q (whN k)) a (sdset b (tSt T a) (some q))) (va_up (va_up (va_up (va_up (va_up M 2 (upd (M 2) (2 * a + sb b) (-1))) 7 (upd (M 7) n (bz (whN k).2.1))) 5 (upd (M 5) n (whN k).1)) 6 (upd (M 6) n 0)) 2 (upd (upd (M 2) (2 * a + sb b) (-1)) (2 * a + sb b) (nI n))) := by
  have h0 := h.fit0 ha b
  have hI0 : Inv (setSt T a (sdset b (tSt T a) none)) ∨ True := Or.inr trivial
  generalize hM1 : va_up M 2 (upd (M 2) (2 * a + sb b) (-1)) = M1 at h0 hun ⊢
  have e2 : upd (M 2) (2 * a + sb b) (-1) = M1 2 := by rw [← hM1, va_up_self]
  have e5 : M 5 = M1 5 := by rw [← hM1]; rfl
  have e6 : M 6 = M1 6 := by rw [← hM1]; rfl
  have e7 : M 7 = M1 7 := by rw [← hM1]; rfl
  rw [e2, e5, e6, e7]
  obtain ⟨u1, u2⟩ := used_f hun
  -- live wheels of the state with the empty side
  generalize hT1 : setSt T a (sdset b (tSt T a) none) = T1 at h0
  have hx1 : tSt T1 a = sdset b (tSt T a) none := by rw [← hT1, gSt, va_up_self]
  have hwh : tWh T1 = tWh T := by rw [← hT1]; rfl
  have hliv : ∀ r, liv T1 r → liv T r := by
    intro r hr
    rw [← hT1] at hr
    rcases hr with ⟨i, hi, hr⟩ | hr
    · by_cases e : i = a
      · subst e
        rw [gSt, va_up_self] at hr
        exact sdset_l hi (fun q z => by cases z) r hr
      · rw [gSt, va_up_ne _ _ e] at hr
        exact Or.inl ⟨i, hi, hr⟩
    · exact Or.inr hr
  have hnq : ∀ r, liv T1 r → r ≠ q := fun r hr e => by
    have := liv_some hI (hliv r hr)
    rw [e, hq] at this
    cases this
  have hns : ∀ r, liv T1 r → sl r ≠ n := by
    intro r hr e
    have hlt := (h0.2.1 r hr).1
    rcases hr with ⟨i, hi, hr | hr⟩ | ⟨i, j, hi, hj, hr⟩
    · refine u1 (2 * i) (by omega) ?_
      rw [(h0.1 i hi).2.2.1, hr]
      show nI (sl r) = nI n
      rw [e]
    · refine u1 (2 * i + 1) (by omega) ?_
      rw [(h0.1 i hi).2.2.2.1, hr]
      show nI (sl r) = nI n
      rw [e]
    · have hra : tRa T1 = tRa T := by rw [← hT1]; rfl
      obtain ⟨N, hN, hNi, hle⟩ := (hI.2.2.1 i hi).1.nat
      have hj12 : j < 12 := by rw [hra] at hj; omega
      refine u2 (20 * i + j) (by omega) ?_ ?_
      · rw [show (20 * i + j) % 20 = j by omega, show (20 * i + j) / 20 = i by omega, (h0.2.2.2.2.1 i hi).1]
        refine i_nle.mp (fun z => ?_)
        rw [hra] at z hj
        have := (hle j (by omega)).mp z
        omega
      · rw [(h0.2.2.2.2.1 i hi).2.2 j hj, hr]
        show nI (sl r) = nI n
        rw [e]
  have hT2 : setSt (setWh T q (whN k)) a (sdset b (tSt T a) (some q)) = setSt (setWh T1 q (whN k)) a (sdset b (tSt T1 a) (some q)) := by
    rw [hx1, sd_2, ← hT1]
    exact (set2 (setWh T q (whN k)) a _ _).symm
  rw [hT2]
  have hlv2 : ∀ r, liv (setSt (setWh T1 q (whN k)) a (sdset b (tSt T1 a) (some q))) r → r = q ∨ liv T1 r := by
    intro r hr
    rcases hr with ⟨i, hi, hr⟩ | hr
    · by_cases e : i = a
      · subst e
        rw [gSt, va_up_self] at hr
        unfold sdset at hr
        split at hr
        · rcases hr with hr | hr
          · cases hr; exact Or.inl rfl
          · exact Or.inr (Or.inl ⟨i, hi, Or.inr hr⟩)
        · rcases hr with hr | hr
          · exact Or.inr (Or.inl ⟨i, hi, Or.inl hr⟩)
          · cases hr; exact Or.inl rfl
      · rw [gSt, va_up_ne _ _ e] at hr
        exact Or.inr (Or.inl ⟨i, hi, hr⟩)
    · exact Or.inr (Or.inr hr)
  have hsl : ∀ o : Option Nat, (∀ r, o = some r → liv T1 r) → slI (va_up sl q n) o = slI sl o := by
    intro o ho
    cases o with
    | none => rfl
    | some r =>
      show nI (va_up sl q n r) = nI (sl r)
      rw [va_up_ne _ _ (hnq r (ho r rfl))]
  obtain ⟨h1, h2, h3, h4, h5, h6, h7, h8, h9⟩ := h0
  have hsb := sb_lt b
  refine ⟨fun i hi => ?_, fun r hr => ?_, fun r r' hr hr' e => ?_, h4, fun i hi => ⟨(h5 i hi).1, (h5 i hi).2.1, fun j hj => ?_⟩, h6, h7, h8, h9⟩
  · by_cases e : i = a
    · subst e
      rw [gSt, va_up_self]
      obtain ⟨p0, p1, p2, p3, p4, p5⟩ := h1 i hi
      have f1 : slI (va_up sl q n) (tSt T1 i).2.2.1 = slI sl (tSt T1 i).2.2.1 := hsl _ (fun r z => Or.inl ⟨i, hi, Or.inl z⟩)
      have f2 : slI (va_up sl q n) (tSt T1 i).2.2.2.1 = slI sl (tSt T1 i).2.2.2.1 := hsl _ (fun r z => Or.inl ⟨i, hi, Or.inr z⟩)
      have f3 : slI (va_up sl q n) (some q) = nI n := by show nI (va_up sl q n q) = nI n; rw [va_up_self]
      unfold sdset sb
      by_cases e : b &&& 1 = 0
      · rw [if_pos e, if_pos e]
        exact ⟨p0, p1, (upd_s _ _ _).trans f3.symm, ((upd_n _ _ (by omega)).trans p3).trans f2.symm, p4, p5⟩
      · rw [if_neg e, if_neg e]
        exact ⟨p0, p1, ((upd_n _ _ (by omega)).trans p2).trans f1.symm, (upd_s _ _ _).trans f3.symm, p4, p5⟩
    · rw [gSt, va_up_ne _ _ e]
      obtain ⟨p0, p1, p2, p3, p4, p5⟩ := h1 i hi
      have f1 : slI (va_up sl q n) (tSt T1 i).2.2.1 = slI sl (tSt T1 i).2.2.1 := hsl _ (fun r z => Or.inl ⟨i, hi, Or.inl z⟩)
      have f2 : slI (va_up sl q n) (tSt T1 i).2.2.2.1 = slI sl (tSt T1 i).2.2.2.1 := hsl _ (fun r z => Or.inl ⟨i, hi, Or.inr z⟩)
      exact ⟨p0, p1, ((upd_n _ _ (by omega)).trans p2).trans f1.symm, ((upd_n _ _ (by omega)).trans p3).trans f2.symm, p4, p5⟩
  · rcases hlv2 r hr with e | hr
    · subst e
      rw [va_up_self]
      refine ⟨hn, ?_⟩
      rw [show W9 (setSt (setWh T1 r (whN k)) a (sdset b (tSt T1 a) (some r))) r = whN k from w9_eq]
      refine ⟨upd_s _ _ _, (upd_s _ _ _).trans ?_, upd_s _ _ _⟩
      unfold whN
      split <;> rfl
    · have hrq := hnq r hr
      rw [va_up_ne _ _ hrq]
      refine ⟨(h2 r hr).1, ?_⟩
      rw [show W9 (setSt (setWh T1 q (whN k)) a (sdset b (tSt T1 a) (some q))) r = W9 T1 r from w9_ne hrq]
      obtain ⟨p0, p1, p2⟩ := (h2 r hr).2
      exact ⟨(upd_n _ _ (hns r hr)).trans p0, (upd_n _ _ (hns r hr)).trans p1, (upd_n _ _ (hns r hr)).trans p2⟩
  · rcases hlv2 r hr with z | g1 <;> rcases hlv2 r' hr' with z' | g2
    · rw [z, z']
    · rw [z, va_up_self, va_up_ne _ _ (hnq r' g2)] at e
      exact absurd e.symm (hns r' g2)
    · rw [z', va_up_self, va_up_ne _ _ (hnq r g1)] at e
      exact absurd e (hns r g1)
    · rw [va_up_ne _ _ (hnq r g1), va_up_ne _ _ (hnq r' g2)] at e
      exact h3 r r' g1 g2 e
  · exact ((h5 i hi).2.2 j hj).trans (hsl _ (fun r z => Or.inr ⟨i, j, hi, hj, z⟩)).symm
