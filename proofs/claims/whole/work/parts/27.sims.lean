theorem MR.base {sl : Nat → Nat} {T : Sg} {M : Nat → Nat → Int32} (h : MR sl T M) {a : Nat} (ha : a < 4) (bk : Bool) {v : Int32} (hv : v = bz bk) (fr : Int32) : MR sl (setSt T a (bk, fr, none, none, 0, 0)) (va_up (va_up (va_up (va_up M 0 (upd (M 0) a v)) 1 (upd (M 1) a fr)) 2 (upd (upd (M 2) (2 * a) (-1)) (2 * a + 1) (-1))) 3 (upd (M 3) a 0)) := by
  subst hv
  refine h.st (fun k hk => ?_) (fun i hi hne => ⟨upd_n _ _ hne, upd_n _ _ hne, ?_, ?_, upd_n _ _ hne, rfl⟩) ⟨upd_s _ _ _, upd_s _ _ _, (upd_n _ _ (by omega)).trans (upd_s _ _ _), upd_s _ _ _, upd_s _ _ _, fun z => absurd z (by decide : ¬ (0 : Int32) = 2)⟩ (fun q z => by rcases z with z | z <;> cases z)
  · rw [va_up_ne _ _ (by omega), va_up_ne _ _ (by omega), va_up_ne _ _ (by omega), va_up_ne _ _ (by omega)]
  · exact (upd_n _ _ (by omega)).trans (upd_n _ _ (by omega))
  · exact (upd_n _ _ (by omega)).trans (upd_n _ _ (by omega))
theorem stl {T : Sg} {a : Nat} (ha : a < 4) : ∀ q, (tSt T a).2.2.1 = some q ∨ (tSt T a).2.2.2.1 = some q → liv T q := fun q z => Or.inl ⟨a, ha, z⟩
theorem MR.light {sl : Nat → Nat} {T : Sg} {M : Nat → Nat → Int32} (h : MR sl T M) {a : Nat} (ha : a < 4) (b k : Int32) (hb : ¬ (tSt T a).1 = false) : MR sl (setSt T a (spLight (tSt T a) b k).2) (va_up (va_up M 3 (upd (M 3) a (lmp b))) 4 (upd (M 4) a k)) := by
  unfold spLight
  rw [if_neg hb]
  obtain ⟨p0, p1, p2, p3, p4, p5⟩ := h.1 a ha
  refine h.st (fun j hj => ?_) (fun i hi hne => ⟨rfl, rfl, rfl, rfl, upd_n _ _ hne, upd_n _ _ hne⟩) ⟨p0, p1, p2, p3, upd_s _ _ _, fun z => (upd_s _ _ _).trans (if_pos z).symm⟩ (stl ha)
  rw [va_up_ne _ _ (by omega), va_up_ne _ _ (by omega)]
theorem MR.ch {sl : Nat → Nat} {T : Sg} {M : Nat → Nat → Int32} (h : MR sl T M) {a : Nat} (ha : a < 4) (v c : Int32) (hc : (tSt T a).2.2.2.2.1 = 2 → v = c) : MR sl (setSt T a ((tSt T a).1, (tSt T a).2.1, (tSt T a).2.2.1, (tSt T a).2.2.2.1, (tSt T a).2.2.2.2.1, c)) (va_up M 4 (upd (M 4) a v)) := by
  obtain ⟨p0, p1, p2, p3, p4, p5⟩ := h.1 a ha
  refine h.st (fun j hj => ?_) (fun i hi hne => ⟨rfl, rfl, rfl, rfl, rfl, upd_n _ _ hne⟩) ⟨p0, p1, p2, p3, p4, fun z => (upd_s _ _ _).trans (hc z)⟩ (stl ha)
  rw [va_up_ne _ _ (by omega)]
theorem st_eta (x : aS) : (x.1, x.2.1, x.2.2.1, x.2.2.2.1, x.2.2.2.2.1, x.2.2.2.2.2) = x := rfl
theorem MR.shine {sl : Nat → Nat} {T : Sg} {M : Nat → Nat → Int32} (h : MR sl T M) (hI : Inv T) {a : Nat} (ha : a < 4) (b : Int32) (h0 : ¬ (tSt T a).2.2.2.2.1 = 0) : MR sl (setSt T a (spShine (tSt T a) b).2) (va_up M 4 (upd (M 4) a (if M 3 a = 2 ∧ 0 < M 4 a then M 4 a - 1 else M 4 a))) ∧ (spShine (tSt T a) b).1 = (0, if M 3 a = 1 then 3 * b else if 0 < M 4 a then b else 0) := by
  obtain ⟨p0, p1, p2, p3, p4, p5⟩ := h.1 a ha
  unfold spShine
  rw [if_neg h0, p4]
  by_cases h1 : (tSt T a).2.2.2.2.1 = 1
  · rw [if_pos h1, if_pos h1, if_neg (fun z => by rw [h1] at z; exact absurd z.1 (by decide))]
    refine ⟨?_, rfl⟩
    exact h.ch ha (M 4 a) _ (fun z => by rw [h1] at z; exact absurd z (by decide))
  · have h2 : (tSt T a).2.2.2.2.1 = 2 := by
      rcases (hI.1 a ha).2.2.2.1 with z | z | z
      · exact absurd z h0
      · exact absurd z h1
      · exact z
    have e4 := p5 h2
    rw [if_neg h1, if_neg h1, e4]
    by_cases hc : 0 < (tSt T a).2.2.2.2.2
    · rw [if_pos hc, if_pos hc, if_pos ⟨h2, hc⟩]
      exact ⟨h.ch ha _ _ (fun _ => rfl), rfl⟩
    · rw [if_neg hc, if_neg hc, if_neg (fun z => hc z.2)]
      exact ⟨h.ch ha _ _ (fun _ => rfl), rfl⟩
theorem bk0 {sl : Nat → Nat} {T : Sg} {M : Nat → Nat → Int32} (h : MR sl T M) {a : Nat} (ha : a < 4) : M 0 a = 0 ↔ (tSt T a).1 = false := by rw [(h.1 a ha).1]; exact bz_0
theorem sdw0 {T : Sg} (hI : Inv T) {a : Nat} (ha : a < 4) (b : Int32) (h : (tSt T a).1 = false) : sdw b (tSt T a).2.2.1 (tSt T a).2.2.2.1 = none := by
  rw [(hI.1 a ha).2.2.1 h]
  unfold sdw
  split <;> rfl
theorem lamp0 {T : Sg} (hI : Inv T) {a : Nat} (ha : a < 4) (h : (tSt T a).1 = false) : (tSt T a).2.2.2.2.1 = 0 := by rw [(hI.1 a ha).2.2.1 h]
theorem MR.slot {sl : Nat → Nat} {T : Sg} {M : Nat → Nat → Int32} (h : MR sl T M) {o : Option Nat} (ho : ∀ q, o = some q → liv T q) {x : Int32} (hx : x = slI sl o) (h1 : ¬ x = -1) : ∃ s9, s9 < 100 ∧ x = nI s9 := by
  subst hx
  obtain ⟨q, e1, e2⟩ := slI_nm h1
  exact ⟨sl q, (h.2.1 q (ho q e1)).1, e2⟩
theorem MR.slotq {sl : Nat → Nat} {T : Sg} {M : Nat → Nat → Int32} (h : MR sl T M) {o : Option Nat} (ho : ∀ q, o = some q → liv T q) {x : Int32} (hx : x = slI sl o) {s9 : Nat} (h9 : s9 < 100) (e9 : x = nI s9) : ∃ q, o = some q ∧ liv T q ∧ s9 = sl q := by
  subst hx
  obtain ⟨q, e1, e2⟩ := slI_nm (sl := sl) (o := o) (by rw [e9]; exact nI_nm1 h9)
  have hl := ho q e1
  have := (h.2.1 q hl).1
  exact ⟨q, e1, hl, (nI_eq (by omega) (by omega)).mp (e9.symm.trans e2)⟩
theorem mBit_bz (b : Bool) : mBit (bz b) = bz b := by cases b <;> rfl
theorem fill_in (f : Nat → Int32) (s n : Nat) (x : Int32) {j : Nat} (h : s ≤ j ∧ j < s + n) : fill f s n x j = x := if_pos h
theorem fill_out (f : Nat → Int32) (s n : Nat) (x : Int32) {j : Nat} (h : ¬ (s ≤ j ∧ j < s + n)) : fill f s n x j = f j := if_neg h
theorem MR.mk7 {sl : Nat → Nat} {T : Sg} {M : Nat → Nat → Int32} (h : MR sl T M) {a : Nat} (b : Int32) : MR sl (setBa T a (b, fun _ => 0)) (va_up (va_up M 8 (upd (M 8) a b)) 9 (fill (M 9) (20 * a) 20 0)) :=
  h.ba (upd_s _ _ _) (fun i _ hne => upd_n _ _ hne) (fun j hj => fill_in _ _ _ _ (by omega)) (fun i _ hne j hj => fill_out _ _ _ _ (by omega))
theorem Inv.raL {T : Sg} (hI : Inv T) {i j : Nat} (hi : i < 4) (hj : j < ix (tRa T i).1) : j < 12 := by
  obtain ⟨N, hN, hNi, -⟩ := (hI.2.2.1 i hi).1.nat
  omega
theorem MR.mk8 {sl : Nat → Nat} {T : Sg} {M : Nat → Nat → Int32} (h : MR sl T M) (hI : Inv T) {a : Nat} {b d : Int32} (hb : lenI b) : MR sl (setRa T a (b, !decide (d &&& 1 = 0), fun _ => none)) (va_up (va_up (va_up M 10 (upd (M 10) a b)) 11 (upd (M 11) a (bz (decide (d &&& 1 = 1))))) 12 (fill (M 12) (20 * a) 20 (-1))) := by
  obtain ⟨N, hN, hNi, -⟩ := hb.nat
  refine h.ra (upd_s _ _ _) (fun i _ hne => upd_n _ _ hne) ?_ (fun i _ hne => upd_n _ _ hne) (fun j hj => ?_) (fun i hi hne j hj => ?_) (fun q j hj z => by cases z)
  · rw [upd_s]
    rcases and1 d with z | z <;> rw [z] <;> rfl
  · have hj' : j < ix b := hj
    exact fill_in _ _ _ _ (by omega)
  · have := hI.raL hi hj
    exact fill_out _ _ _ _ (by omega)
theorem MR.mk9 {sl : Nat → Nat} {T : Sg} {M : Nat → Nat → Int32} (h : MR sl T M) {a : Nat} (b d : Int32) : MR sl (setGr T a (b, d, fun _ => 0)) (va_up (va_up (va_up M 13 (upd (M 13) a b)) 14 (upd (M 14) a d)) 15 (fill (M 15) (400 * a) 400 0)) :=
  h.gr (upd_s _ _ _) (fun i _ hne => upd_n _ _ hne) (upd_s _ _ _) (fun i _ hne => upd_n _ _ hne) (fun r c hr hc => fill_in _ _ _ _ (by omega)) (fun i _ hne r c hr hc => fill_out _ _ _ _ (by omega))
theorem MR.put {sl : Nat → Nat} {T : Sg} {M : Nat → Nat → Int32} (h : MR sl T M) {a : Nat} (ha : a < 4) {j : Nat} (hj : j < 12) (v : Int32) : MR sl (setBa T a ((tBa T a).1, upd (tBa T a).2 j v)) (va_up M 9 (upd (M 9) (20 * a + j) v)) := by
  have := h.ba (a := a) (x := ((tBa T a).1, upd (tBa T a).2 j v)) (g8 := M 8) (g9 := upd (M 9) (20 * a + j) v) (h.2.2.2.1 a ha).1 (fun _ _ _ => rfl) (fun i hi => by
    by_cases e : i = j
    · subst e; rw [upd_s]; exact (upd_s _ _ _).symm
    · rw [upd_n _ _ (by omega), (h.2.2.2.1 a ha).2 i hi]; exact (upd_n _ _ e).symm) (fun i hi hne k hk => upd_n _ _ (by omega))
  rw [va_id] at this
  exact this
theorem MR.add {sl : Nat → Nat} {T : Sg} {M : Nat → Nat → Int32} (h : MR sl T M) {a : Nat} (ha : a < 4) {r c : Nat} (hr : r < 12) (hc : c < 12) (v : Int32) : MR sl (setGr T a ((tGr T a).1, (tGr T a).2.1, upd (tGr T a).2.2 (12 * r + c) v)) (va_up M 15 (upd (M 15) (400 * a + 20 * r + c) v)) := by
  have := h.gr (a := a) (x := ((tGr T a).1, (tGr T a).2.1, upd (tGr T a).2.2 (12 * r + c) v)) (g13 := M 13) (g14 := M 14) (g15 := upd (M 15) (400 * a + 20 * r + c) v) (h.2.2.2.2.2.1 a ha).1 (fun _ _ _ => rfl) (h.2.2.2.2.2.1 a ha).2.1 (fun _ _ _ => rfl) (fun r' c' hr' hc' => by
    by_cases e : r' = r ∧ c' = c
    · obtain ⟨e1, e2⟩ := e; subst e1; subst e2; rw [upd_s]; exact (upd_s _ _ _).symm
    · rw [upd_n _ _ (by omega), (h.2.2.2.2.2.1 a ha).2.2 r' c' hr' hc']; exact (upd_n _ _ (by omega)).symm) (fun i hi hne r' c' hr' hc' => upd_n _ _ (by omega))
  rw [va_id, show va_up M 14 (M 14) = M from va_id M 14] at this
  exact this
theorem MR.hang {sl : Nat → Nat} {T : Sg} {M : Nat → Nat → Int32} (h : MR sl T M) (hI : Inv T) {a d : Nat} (ha : a < 4) (hd : d < 4) {j : Nat} (hj : j < 12) : MR sl (setRa T a ((tRa T a).1, (tRa T a).2.1, va_up (tRa T a).2.2 j (tSt T d).2.2.1)) (va_up M 12 (upd (M 12) (20 * a + j) (M 2 (2 * d)))) := by
  have := h.ra (a := a) (x := ((tRa T a).1, (tRa T a).2.1, va_up (tRa T a).2.2 j (tSt T d).2.2.1)) (g10 := M 10) (g11 := M 11) (g12 := upd (M 12) (20 * a + j) (M 2 (2 * d))) (h.2.2.2.2.1 a ha).1 (fun _ _ _ => rfl) (h.2.2.2.2.1 a ha).2.1 (fun _ _ _ => rfl) (fun i hi => by
    have hi' : i < ix (tRa T a).1 := hi
    by_cases e : i = j
    · subst e; rw [upd_s, (h.1 d hd).2.2.1]; exact congrArg (slI sl) (va_up_self _ _ _).symm
    · have := hI.raL ha hi'
      rw [upd_n _ _ (by omega), (h.2.2.2.2.1 a ha).2.2 i hi']; exact congrArg (slI sl) (va_up_ne _ _ e).symm) (fun i hi hne k hk => by have := hI.raL hi hk; exact upd_n _ _ (by omega)) (fun q i hi z => by
    have hi' : i < ix (tRa T a).1 := hi
    by_cases e : i = j
    · subst e
      exact Or.inl ⟨d, hd, Or.inl ((va_up_self (tRa T a).2.2 i (tSt T d).2.2.1).symm.trans z)⟩
    · exact Or.inr ⟨a, i, ha, hi', (va_up_ne (tRa T a).2.2 (tSt T d).2.2.1 e).symm.trans z⟩)
  rw [va_id, show va_up M 11 (M 11) = M from va_id M 11] at this
  exact this
theorem frl {T : Sg} {d : Nat} (hd : d < 4) : ∀ q, (tSt T d).2.2.1 = some q → liv T q := fun q z => Or.inl ⟨d, hd, Or.inl z⟩
theorem mLong_eq {sl : Nat → Nat} {T : Sg} {M : Nat → Nat → Int32} (h : MR sl T M) {a : Nat} (ha : a < 4) (b d : Int32) : mLong M a b d = spLong (nI a) b d T := by
  have e : ix (nI a) = a := nI_clamp (by omega)
  unfold mLong spLong
  rw [e, (h.2.2.2.1 a ha).1, (h.2.2.2.2.1 a ha).1, (h.2.2.2.2.2.1 a ha).1, (h.2.2.2.2.2.1 a ha).2.1]
theorem noS_eq {sl : Nat → Nat} {T : Sg} {M : Nat → Nat → Int32} (h : MR sl T M) {a d : Nat} (ha : a < 4) (hd : d < 4) : (¬ M 11 a = 0 ∧ ∃ s9, s9 < 100 ∧ M 2 (2 * d) = nI s9 ∧ M 7 s9 = 0) ↔ noStore T (tRa T a) (tSt T d) = true := by
  rw [noS, (h.2.2.2.2.1 a ha).2.1]
  constructor
  · rintro ⟨h1, s9, h2, h3, h4⟩
    obtain ⟨q, e1, e2, e3⟩ := h.slotq (frl hd) (h.1 d hd).2.2.1 h2 h3
    subst e3
    rw [(h.2.1 q e2).2.2.2, bz_0] at h4
    exact ⟨by cases hb : (tRa T a).2.1 with
      | true => rfl
      | false => exact absurd (bz_0.mpr hb) h1, q, e1, h4⟩
  · rintro ⟨h1, q, e1, e2⟩
    have hl := frl hd q e1
    refine ⟨(fun z => by rw [bz_0, h1] at z; cases z), sl q, (h.2.1 q hl).1, ?_, ?_⟩
    · rw [(h.1 d hd).2.2.1, e1]; rfl
    · rw [(h.2.1 q hl).2.2.2]; exact bz_0.mpr e2
