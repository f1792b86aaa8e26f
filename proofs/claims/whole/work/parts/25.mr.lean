/-! the reference against the shop's state -/
def slI (sl : Nat → Nat) (o : Option Nat) : Int32 := match o with
  | none => -1
  | some q => nI (sl q)
def liv (T : Sg) (q : Nat) : Prop := (∃ i, i < 4 ∧ ((tSt T i).2.2.1 = some q ∨ (tSt T i).2.2.2.1 = some q)) ∨ (∃ i j, i < 4 ∧ j < ix (tRa T i).1 ∧ (tRa T i).2.2 j = some q)
def exM (e : Int32) : Int32 := if e = 1 then 0 else if e = 6 then 1 else 2
def mStR (sl : Nat → Nat) (x : aS) (M : Nat → Nat → Int32) (i : Nat) : Prop := M 0 i = bz x.1 ∧ M 1 i = x.2.1 ∧ M 2 (2 * i) = slI sl x.2.2.1 ∧ M 2 (2 * i + 1) = slI sl x.2.2.2.1 ∧ M 3 i = x.2.2.2.2.1 ∧ (x.2.2.2.2.1 = 2 → M 4 i = x.2.2.2.2.2)
def mWhR (x : aWh) (M : Nat → Nat → Int32) (s : Nat) : Prop := M 5 s = x.1 ∧ M 6 s = x.2.2 ∧ M 7 s = bz x.2.1
def mSpR (x : aSp) (M : Nat → Nat → Int32) (p : Nat) : Prop := M 18 p = x.1 ∧ M 18 (p + 1) = x.2.1 ∧ M 18 (p + 2) = x.2.2.1 ∧ M 18 (p + 3) = x.2.2.2.1 ∧ M 18 (p + 4) = x.2.2.2.2
def MR (sl : Nat → Nat) (T : Sg) (M : Nat → Nat → Int32) : Prop :=
  (∀ i, i < 4 → mStR sl (tSt T i) M i) ∧
  (∀ q, liv T q → sl q < 100 ∧ mWhR (W9 T q) M (sl q)) ∧
  (∀ q q', liv T q → liv T q' → sl q = sl q' → q = q') ∧
  (∀ i, i < 4 → M 8 i = (tBa T i).1 ∧ ∀ j, j < 12 → M 9 (20 * i + j) = (tBa T i).2 j) ∧
  (∀ i, i < 4 → M 10 i = (tRa T i).1 ∧ M 11 i = bz (tRa T i).2.1 ∧ ∀ j, j < ix (tRa T i).1 → M 12 (20 * i + j) = slI sl ((tRa T i).2.2 j)) ∧
  (∀ i, i < 4 → M 13 i = (tGr T i).1 ∧ M 14 i = (tGr T i).2.1 ∧ ∀ r c, r < 12 → c < 12 → M 15 (400 * i + 20 * r + c) = (tGr T i).2.2 (12 * r + c)) ∧
  (∀ i, i < 4 → M 16 i = exM (tEx T i)) ∧
  (∀ j, j < 4 → M 17 j = (tJo T j).1 ∧ ∀ k, k < ix (tJo T j).1 → mSpR ((tJo T j).2 k) M (5 * (16 * j + k))) ∧
  (∀ r, r < 8 → M 25 r = tTa T r)
theorem MR.st {sl : Nat → Nat} {T : Sg} {M M' : Nat → Nat → Int32} (h : MR sl T M) {a : Nat} {x : aS} (hk : ∀ k, 5 ≤ k → M' k = M k)
    (ho : ∀ i, i < 4 → i ≠ a → M' 0 i = M 0 i ∧ M' 1 i = M 1 i ∧ M' 2 (2 * i) = M 2 (2 * i) ∧ M' 2 (2 * i + 1) = M 2 (2 * i + 1) ∧ M' 3 i = M 3 i ∧ M' 4 i = M 4 i)
    (hx : mStR sl x M' a) (hl : ∀ q, x.2.2.1 = some q ∨ x.2.2.2.1 = some q → liv T q) : MR sl (setSt T a x) M' := by
  have hlv : ∀ q, liv (setSt T a x) q → liv T q := by
    intro q hq
    rcases hq with ⟨i, hi, hq⟩ | hq
    · by_cases e : i = a
      · subst e
        rw [gSt, va_up_self] at hq
        exact hl q hq
      · rw [gSt, va_up_ne _ _ e] at hq
        exact Or.inl ⟨i, hi, hq⟩
    · exact Or.inr hq
  obtain ⟨h1, h2, h3, h4, h5, h6, h7, h8, h9⟩ := h
  refine ⟨fun i hi => ?_, fun q hq => ?_, fun q q' hq hq' => h3 q q' (hlv q hq) (hlv q' hq'), ?_, ?_, ?_, ?_, ?_, ?_⟩
  · by_cases e : i = a
    · subst e
      rw [gSt, va_up_self]
      exact hx
    · rw [gSt, va_up_ne _ _ e]
      obtain ⟨o0, o1, o2, o3, o4, o5⟩ := ho i hi e
      obtain ⟨p0, p1, p2, p3, p4, p5⟩ := h1 i hi
      exact ⟨o0.trans p0, o1.trans p1, o2.trans p2, o3.trans p3, o4.trans p4, fun z => o5.trans (p5 z)⟩
  · have := h2 q (hlv q hq)
    refine ⟨this.1, ?_⟩
    unfold mWhR
    rw [hk 5 (by omega), hk 6 (by omega), hk 7 (by omega)]
    exact this.2
  · rw [hk 8 (by omega), hk 9 (by omega)]; exact h4
  · rw [hk 10 (by omega), hk 11 (by omega), hk 12 (by omega)]; exact h5
  · rw [hk 13 (by omega), hk 14 (by omega), hk 15 (by omega)]; exact h6
  · rw [hk 16 (by omega)]; exact h7
  · unfold mSpR
    rw [hk 17 (by omega), hk 18 (by omega)]; exact h8
  · rw [hk 25 (by omega)]; exact h9
theorem w9_ne {T : Sg} {q r : Nat} {y : aWh} (h : r ≠ q) : W9 (setWh T q y) r = W9 T r := by
  show (tWh (setWh T q y) r).getD _ = _
  rw [gWh, va_up_ne _ _ h]
theorem w9_eq {T : Sg} {q : Nat} {y : aWh} : W9 (setWh T q y) q = y := by
  show (tWh (setWh T q y) q).getD _ = _
  rw [gWh, va_up_self]; rfl
theorem upd_s (f : Nat → Int32) (k : Nat) (x : Int32) : upd f k x k = x := by simp [upd]
theorem upd_n (f : Nat → Int32) {k j : Nat} (x : Int32) (h : j ≠ k) : upd f k x j = f j := by simp [upd, h]
theorem MR.wh {sl : Nat → Nat} {T : Sg} {M : Nat → Nat → Int32} (h : MR sl T M) {q : Nat} (hq : liv T q) (t : Int32) : MR sl (setWh T q ((W9 T q).1, (W9 T q).2.1, t)) (va_up M 6 (upd (M 6) (sl q) t)) := by
  obtain ⟨h1, h2, h3, h4, h5, h6, h7, h8, h9⟩ := h
  refine ⟨h1, fun r hr => ?_, h3, h4, h5, h6, h7, h8, h9⟩
  have hr' : liv T r := hr
  refine ⟨(h2 r hr').1, ?_⟩
  by_cases e : r = q
  · subst e
    rw [w9_eq]
    obtain ⟨p0, p1, p2⟩ := (h2 r hr').2
    exact ⟨p0, upd_s _ _ _, p2⟩
  · rw [w9_ne e]
    obtain ⟨p0, p1, p2⟩ := (h2 r hr').2
    exact ⟨p0, (upd_n _ _ (fun z => e (h3 r q hr' hq z))).trans p1, p2⟩
theorem MR.ba {sl : Nat → Nat} {T : Sg} {M : Nat → Nat → Int32} (h : MR sl T M) {a : Nat} {x : aBa} {g8 g9 : Nat → Int32} (e8 : g8 a = x.1) (o8 : ∀ i, i < 4 → i ≠ a → g8 i = M 8 i) (e9 : ∀ j, j < 12 → g9 (20 * a + j) = x.2 j) (o9 : ∀ i, i < 4 → i ≠ a → ∀ j, j < 12 → g9 (20 * i + j) = M 9 (20 * i + j)) : MR sl (setBa T a x) (va_up (va_up M 8 g8) 9 g9) := by
  obtain ⟨h1, h2, h3, h4, h5, h6, h7, h8, h9⟩ := h
  refine ⟨h1, h2, h3, fun i hi => ?_, h5, h6, h7, h8, h9⟩
  rw [gBa]
  by_cases e : i = a
  · subst e; rw [va_up_self]; exact ⟨e8, e9⟩
  · rw [va_up_ne _ _ e]; exact ⟨(o8 i hi e).trans (h4 i hi).1, fun j hj => (o9 i hi e j hj).trans ((h4 i hi).2 j hj)⟩
theorem MR.gr {sl : Nat → Nat} {T : Sg} {M : Nat → Nat → Int32} (h : MR sl T M) {a : Nat} {x : aGr} {g13 g14 g15 : Nat → Int32} (e13 : g13 a = x.1) (o13 : ∀ i, i < 4 → i ≠ a → g13 i = M 13 i) (e14 : g14 a = x.2.1) (o14 : ∀ i, i < 4 → i ≠ a → g14 i = M 14 i) (e15 : ∀ r c, r < 12 → c < 12 → g15 (400 * a + 20 * r + c) = x.2.2 (12 * r + c)) (o15 : ∀ i, i < 4 → i ≠ a → ∀ r c, r < 12 → c < 12 → g15 (400 * i + 20 * r + c) = M 15 (400 * i + 20 * r + c)) : MR sl (setGr T a x) (va_up (va_up (va_up M 13 g13) 14 g14) 15 g15) := by
  obtain ⟨h1, h2, h3, h4, h5, h6, h7, h8, h9⟩ := h
  refine ⟨h1, h2, h3, h4, h5, fun i hi => ?_, h7, h8, h9⟩
  rw [gGr]
  by_cases e : i = a
  · subst e; rw [va_up_self]; exact ⟨e13, e14, e15⟩
  · rw [va_up_ne _ _ e]; exact ⟨(o13 i hi e).trans (h6 i hi).1, (o14 i hi e).trans (h6 i hi).2.1, fun r c hr hc => (o15 i hi e r c hr hc).trans ((h6 i hi).2.2 r c hr hc)⟩
theorem MR.ra {sl : Nat → Nat} {T : Sg} {M : Nat → Nat → Int32} (h : MR sl T M) {a : Nat} {x : aRa} {g10 g11 g12 : Nat → Int32} (e10 : g10 a = x.1) (o10 : ∀ i, i < 4 → i ≠ a → g10 i = M 10 i) (e11 : g11 a = bz x.2.1) (o11 : ∀ i, i < 4 → i ≠ a → g11 i = M 11 i) (e12 : ∀ j, j < ix x.1 → g12 (20 * a + j) = slI sl (x.2.2 j)) (o12 : ∀ i, i < 4 → i ≠ a → ∀ j, j < ix (tRa T i).1 → g12 (20 * i + j) = M 12 (20 * i + j)) (hl : ∀ q j, j < ix x.1 → x.2.2 j = some q → liv T q) : MR sl (setRa T a x) (va_up (va_up (va_up M 10 g10) 11 g11) 12 g12) := by
  have hlv : ∀ q, liv (setRa T a x) q → liv T q := by
    intro q hq
    rcases hq with hq | ⟨i, j, hi, hj, hq⟩
    · exact Or.inl hq
    · by_cases e : i = a
      · subst e
        rw [gRa, va_up_self] at hj hq
        exact hl q j hj hq
      · rw [gRa, va_up_ne _ _ e] at hj hq
        exact Or.inr ⟨i, j, hi, hj, hq⟩
  obtain ⟨h1, h2, h3, h4, h5, h6, h7, h8, h9⟩ := h
  refine ⟨h1, fun q hq => h2 q (hlv q hq), fun q q' hq hq' => h3 q q' (hlv q hq) (hlv q' hq'), h4, fun i hi => ?_, h6, h7, h8, h9⟩
  rw [gRa]
  by_cases e : i = a
  · subst e; rw [va_up_self]; exact ⟨e10, e11, e12⟩
  · rw [va_up_ne _ _ e]; exact ⟨(o10 i hi e).trans (h5 i hi).1, (o11 i hi e).trans (h5 i hi).2.1, fun j hj => (o12 i hi e j hj).trans ((h5 i hi).2.2 j hj)⟩
theorem MR.ex {sl : Nat → Nat} {T : Sg} {M : Nat → Nat → Int32} (h : MR sl T M) {a : Nat} {e m : Int32} (he : m = exM e) : MR sl (setEx T (upd (tEx T) a e)) (va_up M 16 (upd (M 16) a m)) := by
  obtain ⟨h1, h2, h3, h4, h5, h6, h7, h8, h9⟩ := h
  refine ⟨h1, h2, h3, h4, h5, h6, fun i hi => ?_, h8, h9⟩
  show upd (M 16) a m i = exM (upd (tEx T) a e i)
  unfold upd
  split
  · exact he
  · exact h7 i hi
theorem MR.ta {sl : Nat → Nat} {T : Sg} {M : Nat → Nat → Int32} (h : MR sl T M) {r : Nat} (hr : r < 8) : MR sl (setTa T (upd (tTa T) r (tTa T r + 1))) (va_up M 25 (upd (M 25) r (M 25 r + 1))) := by
  obtain ⟨h1, h2, h3, h4, h5, h6, h7, h8, h9⟩ := h
  refine ⟨h1, h2, h3, h4, h5, h6, h7, h8, fun i hi => ?_⟩
  show upd (M 25) r (M 25 r + 1) i = upd (tTa T) r (tTa T r + 1) i
  unfold upd
  split
  · rw [h9 r hr]
  · exact h9 i hi
theorem MR.re {sl : Nat → Nat} {T : Sg} {M : Nat → Nat → Int32} (h : MR sl T M) (x : aRe) : MR sl (setRe T x) M := h
/-! a free slot -/
theorem us1_f {M : Nat → Nat → Int32} {x : Int32} : ∀ n, us1 M x n = false → ∀ k, k < n → ¬ M 2 k = x := by
  intro n
  induction n with
  | zero => intro _ k hk; omega
  | succ n ih =>
    intro h k hk
    have h' := h
    simp only [us1, Bool.or_eq_false_iff, decide_eq_false_iff_not] at h'
    rcases Nat.lt_or_ge k n with z | z
    · exact ih h'.1 k z
    · rw [show k = n by omega]; exact h'.2
theorem us2_f {M : Nat → Nat → Int32} {x : Int32} : ∀ n, us2 M x n = false → us1 M x 8 = false ∧ ∀ k, k < n → nI (k % 20) < M 10 (k / 20) → ¬ M 12 k = x := by
  intro n
  induction n with
  | zero => intro h; exact ⟨h, fun k hk => by omega⟩
  | succ n ih =>
    intro h
    have h' := h
    simp only [us2, Bool.or_eq_false_iff, Bool.and_eq_false_iff, decide_eq_false_iff_not] at h'
    refine ⟨(ih h'.1).1, fun k hk hlt => ?_⟩
    rcases Nat.lt_or_ge k n with z | z
    · exact (ih h'.1).2 k z hlt
    · have e : k = n := by omega
      subst e
      rcases h'.2 with y | y
      · exact absurd hlt y
      · exact y
theorem used_f {M : Nat → Nat → Int32} {x : Int32} (h : mUsed M x = false) : (∀ k, k < 8 → ¬ M 2 k = x) ∧ ∀ k, k < 80 → nI (k % 20) < M 10 (k / 20) → ¬ M 12 k = x := ⟨us1_f 8 (us2_f 80 h).1, (us2_f 80 h).2⟩
theorem us1_t {M : Nat → Nat → Int32} {x : Int32} : ∀ n, us1 M x n = true → ∃ k, k < n ∧ M 2 k = x := by
  intro n
  induction n with
  | zero => intro h; cases h
  | succ n ih =>
    intro h
    simp only [us1, Bool.or_eq_true, decide_eq_true_eq] at h
    rcases h with h | h
    · obtain ⟨k, h1, h2⟩ := ih h; exact ⟨k, by omega, h2⟩
    · exact ⟨n, by omega, h⟩
theorem us2_t {M : Nat → Nat → Int32} {x : Int32} : ∀ n, us2 M x n = true → (∃ k, k < 8 ∧ M 2 k = x) ∨ ∃ k, k < n ∧ M 12 k = x := by
  intro n
  induction n with
  | zero => intro h; exact Or.inl (us1_t 8 h)
  | succ n ih =>
    intro h
    simp only [us2, Bool.or_eq_true, Bool.and_eq_true, decide_eq_true_eq] at h
    rcases h with h | h
    · rcases ih h with z | ⟨k, h1, h2⟩
      · exact Or.inl z
      · exact Or.inr ⟨k, by omega, h2⟩
    · exact Or.inr ⟨n, by omega, h.2⟩
theorem len_sub : ∀ (N L : List Int32), N.Nodup → (∀ x ∈ N, x ∈ L) → N.length ≤ L.length := by
  intro N
  induction N with
  | nil => intro L _ _; exact Nat.zero_le _
  | cons a N ih =>
    intro L hn hs
    have ha : a ∈ L := hs a List.mem_cons_self
    have hnn := List.nodup_cons.mp hn
    have h1 := ih (L.erase a) hnn.2 (fun x hx => (List.mem_erase_of_ne (fun e : x = a => hnn.1 (by rw [← e]; exact hx))).mpr (hs x (List.mem_cons_of_mem _ hx)))
    rw [List.length_erase_of_mem ha] at h1
    have : 0 < L.length := List.length_pos_of_mem ha
    simp only [List.length_cons]
    omega
theorem nd_nI : ((List.range 100).map nI).Nodup := by decide +kernel
theorem free_slot (M : Nat → Nat → Int32) : ∃ n, n < 100 ∧ mUsed M (nI n) = false := by
  apply Classical.byContradiction
  intro hno
  have hall : ∀ n, n < 100 → mUsed M (nI n) = true := by
    intro n hn
    cases h : mUsed M (nI n) with
    | true => rfl
    | false => exact absurd ⟨n, hn, h⟩ hno
  have := len_sub ((List.range 100).map nI) ((List.range 8).map (M 2) ++ (List.range 80).map (M 12)) nd_nI (fun x hx => by
    obtain ⟨n, hn, rfl⟩ := List.mem_map.mp hx
    rcases us2_t 80 (hall n (List.mem_range.mp hn)) with ⟨k, h1, h2⟩ | ⟨k, h1, h2⟩
    · exact List.mem_append.mpr (Or.inl (List.mem_map.mpr ⟨k, List.mem_range.mpr h1, h2⟩))
    · exact List.mem_append.mpr (Or.inr (List.mem_map.mpr ⟨k, List.mem_range.mpr h1, h2⟩)))
  simp at this
theorem liv_some {T : Sg} (hI : Inv T) {q : Nat} (h : liv T q) : (tWh T q).isSome = true := by
  rcases h with ⟨i, hi, h | h⟩ | ⟨i, j, hi, hj, h⟩
  · exact (hI.1 i hi).1 q h
  · exact (hI.1 i hi).2.1 q h
  · obtain ⟨N, hN, hNi, -⟩ := (hI.2.2.1 i hi).1.nat
    exact (hI.2.2.1 i hi).2 j q (by omega) h
