/-! the shop's state: stands, baskets, racks, grids, jobs, excuses, tallies, report, wheels -/
abbrev aBa : Type := Int32 × (Nat → Int32)
abbrev aRa : Type := Int32 × Bool × (Nat → Option Nat)
abbrev aGr : Type := Int32 × Int32 × (Nat → Int32)
abbrev aSp : Type := Int32 × Int32 × Int32 × Int32 × Int32
abbrev aJo : Type := Int32 × (Nat → aSp)
abbrev aRe : Type := Int32 × Int32 × Int32 × Int32 × Int32 × Int64
abbrev Sg : Type := (Nat → aS) × (Nat → aBa) × (Nat → aRa) × (Nat → aGr) × (Nat → aJo) × (Nat → Int32) × (Nat → Int32) × aRe × (Nat → Option aWh)
abbrev tSt (T : Sg) : Nat → aS := T.1
abbrev tBa (T : Sg) : Nat → aBa := T.2.1
abbrev tRa (T : Sg) : Nat → aRa := T.2.2.1
abbrev tGr (T : Sg) : Nat → aGr := T.2.2.2.1
abbrev tJo (T : Sg) : Nat → aJo := T.2.2.2.2.1
abbrev tEx (T : Sg) : Nat → Int32 := T.2.2.2.2.2.1
abbrev tTa (T : Sg) : Nat → Int32 := T.2.2.2.2.2.2.1
abbrev tRe (T : Sg) : aRe := T.2.2.2.2.2.2.2.1
abbrev tWh (T : Sg) : Nat → Option aWh := T.2.2.2.2.2.2.2.2
def setSt (T : Sg) (i : Nat) (x : aS) : Sg := (va_up (tSt T) i x, tBa T, tRa T, tGr T, tJo T, tEx T, tTa T, tRe T, tWh T)
def setBa (T : Sg) (i : Nat) (x : aBa) : Sg := (tSt T, va_up (tBa T) i x, tRa T, tGr T, tJo T, tEx T, tTa T, tRe T, tWh T)
def setRa (T : Sg) (i : Nat) (x : aRa) : Sg := (tSt T, tBa T, va_up (tRa T) i x, tGr T, tJo T, tEx T, tTa T, tRe T, tWh T)
def setGr (T : Sg) (i : Nat) (x : aGr) : Sg := (tSt T, tBa T, tRa T, va_up (tGr T) i x, tJo T, tEx T, tTa T, tRe T, tWh T)
def setJo (T : Sg) (i : Nat) (x : aJo) : Sg := (tSt T, tBa T, tRa T, tGr T, va_up (tJo T) i x, tEx T, tTa T, tRe T, tWh T)
def setEx (T : Sg) (x : Nat → Int32) : Sg := (tSt T, tBa T, tRa T, tGr T, tJo T, x, tTa T, tRe T, tWh T)
def setTa (T : Sg) (x : Nat → Int32) : Sg := (tSt T, tBa T, tRa T, tGr T, tJo T, tEx T, x, tRe T, tWh T)
def setRe (T : Sg) (x : aRe) : Sg := (tSt T, tBa T, tRa T, tGr T, tJo T, tEx T, tTa T, x, tWh T)
def setWh (T : Sg) (q : Nat) (x : aWh) : Sg := (tSt T, tBa T, tRa T, tGr T, tJo T, tEx T, tTa T, tRe T, va_up (tWh T) q (some x))
abbrev W9 (T : Sg) : Nat → aWh := fun q => (tWh T q).getD (0, false, 0)
/-! the spec: what a step does -/
def okS (k a b d : Int32) : Bool := wi k 17 && (wi a 4 && (if k = 13 then wi d 4 else if k = 7 then decide (b ≤ 12) else if k = 8 then decide (b ≤ 12) else if k = 9 then (decide (b ≤ 12) && decide (d ≤ 12)) else true))
def spFit (q : Nat) (a b d : Int32) (T : Sg) : (Int32 × Int32) × Sg := if (tSt T (ix a)).1 = false then ((1, 0), T) else if d = 0 then ((0, d), setSt T (ix a) (sdset b (tSt T (ix a)) none)) else ((0, d), setSt (setWh T q (whN d)) (ix a) (sdset b (tSt T (ix a)) (some q)))
def spTrue (b : Int32) (x : aS) (T : Sg) : (Int32 × Int32) × Sg := match sdw b x.2.2.1 x.2.2.2.1 with
  | none => ((1, 0), T)
  | some q => ((0, whT (W9 T q)), setWh T q ((W9 T q).1, (W9 T q).2.1, (W9 T q).2.2 + 1))
def spCount (b : Int32) (x : aS) (T : Sg) : (Int32 × Int32) × Sg := match sdw b x.2.2.1 x.2.2.2.1 with
  | none => ((1, 0), T)
  | some q => ((0, (W9 T q).1), T)
def spLen (n : Int32) : Int32 × Int32 := if n = -1 then (1, 0) else (0, n)
def spRow (n k i : Int32) : Int32 × Int32 := if n = -1 then (1, 0) else if wi i n = true then (0, k) else (3, 0)
def spLong (a b d : Int32) (T : Sg) : Int32 × Int32 := if b = 0 then spLen (tBa T (ix a)).1 else if b = 1 then spLen (tRa T (ix a)).1 else if b = 2 then spLen (tGr T (ix a)).1 else spRow (tGr T (ix a)).1 (tGr T (ix a)).2.1 d
def spPut (a b d : Int32) (T : Sg) : (Int32 × Int32) × Sg := if (tBa T (ix a)).1 = -1 then ((1, 0), T) else if wi b (tBa T (ix a)).1 = true then ((0, (tBa T (ix a)).2 (ix b)), setBa T (ix a) ((tBa T (ix a)).1, upd (tBa T (ix a)).2 (ix b) d)) else ((3, 0), T)
def spAdd (a b d : Int32) (T : Sg) : (Int32 × Int32) × Sg := if (tGr T (ix a)).1 = -1 then ((1, 0), T) else if (wi b (tGr T (ix a)).1 && wi d (tGr T (ix a)).2.1) = true then ((0, (tGr T (ix a)).2.2 (12 * ix b + ix d) + 1), setGr T (ix a) ((tGr T (ix a)).1, (tGr T (ix a)).2.1, upd (tGr T (ix a)).2.2 (12 * ix b + ix d) ((tGr T (ix a)).2.2 (12 * ix b + ix d) + 1))) else ((3, 0), T)
def noStore (T : Sg) (r : aRa) (x : aS) : Bool := r.2.1 && (match x.2.2.1 with
  | none => false
  | some q => !(W9 T q).2.1)
def spHang (a b d : Int32) (T : Sg) : (Int32 × Int32) × Sg := if (tRa T (ix a)).1 = -1 ∨ (tSt T (ix d)).1 = false then ((1, 0), T) else if wi b (tRa T (ix a)).1 = true then (if noStore T (tRa T (ix a)) (tSt T (ix d)) = true then ((4, 0), T) else ((0, 1), setRa T (ix a) ((tRa T (ix a)).1, (tRa T (ix a)).2.1, va_up (tRa T (ix a)).2.2 (ix b) (tSt T (ix d)).2.2.1))) else ((3, 0), T)
def spBal (a b : Int32) (T : Sg) : (Int32 × Int32) × Sg := if (tRa T (ix a)).1 = -1 then ((1, 0), T) else if wi b (tRa T (ix a)).1 = true then (match (tRa T (ix a)).2.2 (ix b) with
  | none => ((1, 0), T)
  | some q => if (W9 T q).2.1 = true then ((0, 1000 + (W9 T q).1), setWh T q ((W9 T q).1, (W9 T q).2.1, 0)) else ((5, 0), T)) else ((3, 0), T)
def excI (b : Int32) : Int32 := if b = 0 then 1 else if b = 1 then 6 else 7
def spDo (q : Nat) (k a b d : Int32) (T : Sg) : (Int32 × Int32) × Sg :=
  if k = 0 then ((0, b), setSt T (ix a) (true, b, none, none, 0, 0))
  else if k = 1 then ((0, 1), setSt T (ix a) (false, 0, none, none, 0, 0))
  else if k = 2 then spFit q a b d T
  else if k = 3 then spTrue b (tSt T (ix a)) T
  else if k = 4 then spCount b (tSt T (ix a)) T
  else if k = 5 then ((spLight (tSt T (ix a)) b d).1, setSt T (ix a) (spLight (tSt T (ix a)) b d).2)
  else if k = 6 then ((spShine (tSt T (ix a)) b).1, setSt T (ix a) (spShine (tSt T (ix a)) b).2)
  else if k = 7 then (if b < 0 then ((2, 0), T) else ((0, b), setBa T (ix a) (b, fun _ => 0)))
  else if k = 8 then (if b < 0 then ((2, 0), T) else ((0, b), setRa T (ix a) (b, !decide (d &&& 1 = 0), fun _ => none)))
  else if k = 9 then (if b < 0 ∨ d < 0 then ((2, 0), T) else ((0, b), setGr T (ix a) (b, d, fun _ => 0)))
  else if k = 10 then (spLong a b d T, T)
  else if k = 11 then spPut a b d T
  else if k = 12 then spAdd a b d T
  else if k = 13 then spHang a b d T
  else if k = 14 then spBal a b T
  else if k = 15 then ((0, b), setEx T (upd (tEx T) (ix a) (excI b)))
  else (if b = 0 then (0, 0) else (tEx T (ix a), 0), T)
def spAt (q : Nat) (k a b d : Int32) (T : Sg) : (Int32 × Int32) × Sg := ((spDo q k a b d T).1, if (spDo q k a b d T).1.1 = 0 then (spDo q k a b d T).2 else setTa (spDo q k a b d T).2 (upd (tTa (spDo q k a b d T).2) (ix (spDo q k a b d T).1.1) (tTa (spDo q k a b d T).2 (ix (spDo q k a b d T).1.1) + 1)))
theorem gSt (T : Sg) (i j : Nat) (x : aS) : tSt (setSt T i x) j = va_up (tSt T) i x j := rfl
theorem gBa (T : Sg) (i j : Nat) (x : aBa) : tBa (setBa T i x) j = va_up (tBa T) i x j := rfl
theorem gRa (T : Sg) (i j : Nat) (x : aRa) : tRa (setRa T i x) j = va_up (tRa T) i x j := rfl
theorem gGr (T : Sg) (i j : Nat) (x : aGr) : tGr (setGr T i x) j = va_up (tGr T) i x j := rfl
theorem gJo (T : Sg) (i j : Nat) (x : aJo) : tJo (setJo T i x) j = va_up (tJo T) i x j := rfl
theorem gWh (T : Sg) (i j : Nat) (x : aWh) : tWh (setWh T i x) j = va_up (tWh T) i (some x) j := rfl
/-! the world of the shop -/
abbrev cRe (x : aRe) : va_E := .inr (4, [.int x.1, .int x.2.1, .int x.2.2.1, .int x.2.2.2.1, .int x.2.2.2.2.1, .long x.2.2.2.2.2])
abbrev cSp (x : aSp) : va_E := .inr (6, [.int x.1, .int x.2.1, .int x.2.2.1, .int x.2.2.2.1, .int x.2.2.2.2])
/-- addresses apart -/
def adI (ad : Nat → Nat) : Prop := ∀ t t', t < 46 → t' < 46 → ad t = ad t' → t = t'
def SW (cs : Nat → ClassId) (ad : Nat → Nat) (T : Sg) (jf : Nat → Nat → Option Nat) (w : fW) : Prop :=
  adI ad ∧
  w (ad 0) = some (.inr (8, [.ref (ad 1), .ref (ad 2), .ref (ad 3), .ref (ad 4), .ref (ad 5), .ref (ad 6), .ref (ad 7), .ref (ad 8)])) ∧
  w (ad 1) = some (.inl (cs 2, 4, .inr (.inr (.inr (.inr (fun j => some (ad (10 + j)))))))) ∧
  w (ad 2) = some (.inl (cs 3, 4, .inr (.inr (.inr (.inr (fun j => some (ad (14 + j)))))))) ∧
  w (ad 3) = some (.inl (cs 4, 4, .inr (.inr (.inr (.inr (fun j => some (ad (22 + j)))))))) ∧
  w (ad 4) = some (.inl (cs 5, 4, .inr (.inr (.inr (.inr (fun j => some (ad (30 + j)))))))) ∧
  w (ad 5) = some (.inl (cs 6, 4, .inr (.inr (.inr (.inr (fun j => some (ad (38 + j)))))))) ∧
  w (ad 6) = some (.inl (cs 0, 4, .inl (tEx T))) ∧
  w (ad 7) = some (.inl (cs 0, 8, .inl (tTa T))) ∧
  w (ad 8) = some (cRe (tRe T)) ∧
  (∀ i, i < 4 → w (ad (10 + i)) = some (cSt (tSt T i))) ∧
  (∀ i, i < 4 → w (ad (14 + i)) = some (.inr (0, [.ref (ad (18 + i)), .int (tBa T i).1]))) ∧
  (∀ i, i < 4 → w (ad (18 + i)) = some (.inl (cs 0, 12, .inl (tBa T i).2))) ∧
  (∀ i, i < 4 → w (ad (22 + i)) = some (.inr (3, [.ref (ad (26 + i)), .int (tRa T i).1, .int (bz (tRa T i).2.1)]))) ∧
  (∀ i, i < 4 → w (ad (26 + i)) = some (.inl (cs 7, 12, .inr (.inr (.inr (.inr (tRa T i).2.2)))))) ∧
  (∀ i, i < 4 → w (ad (30 + i)) = some (.inr (1, [.ref (ad (34 + i)), .int (tGr T i).1, .int (tGr T i).2.1]))) ∧
  (∀ i, i < 4 → w (ad (34 + i)) = some (.inl (cs 0, 144, .inl (tGr T i).2.2))) ∧
  (∀ i, i < 4 → w (ad (38 + i)) = some (.inr (2, [.ref (ad (42 + i)), .int (tJo T i).1]))) ∧
  (∀ i, i < 4 → w (ad (42 + i)) = some (.inl (cs 8, 16, .inr (.inr (.inr (.inr (jf i))))))) ∧
  (∀ q x, tWh T q = some x → w q = some (cWh x)) ∧
  (∀ j k, j < 4 → k < ix (tJo T j).1 → ∃ q, jf j k = some q ∧ w q = some (cSp ((tJo T j).2 k)))
theorem adI.ne {ad : Nat → Nat} (h : adI ad) {t t' : Nat} (h1 : t < 46) (h2 : t' < 46) (h3 : t ≠ t') : ad t ≠ ad t' := fun e => h3 (h t t' h1 h2 e)
theorem SW.fix {cs : Nat → ClassId} {ad : Nat → Nat} {T : Sg} {jf : Nat → Nat → Option Nat} {w : fW} (h : SW cs ad T jf w) {t : Nat} (ht : t < 46) (h9 : t ≠ 9) : ∃ e, w (ad t) = some e ∧ (∀ fs, e ≠ .inr (7, fs)) ∧ (∀ fs, e ≠ .inr (6, fs)) := by
  rcases (show t = 0 ∨ t = 1 ∨ t = 2 ∨ t = 3 ∨ t = 4 ∨ t = 5 ∨ t = 6 ∨ t = 7 ∨ t = 8 ∨ (10 ≤ t ∧ t < 14) ∨ (14 ≤ t ∧ t < 18) ∨ (18 ≤ t ∧ t < 22) ∨ (22 ≤ t ∧ t < 26) ∨ (26 ≤ t ∧ t < 30) ∨ (30 ≤ t ∧ t < 34) ∨ (34 ≤ t ∧ t < 38) ∨ (38 ≤ t ∧ t < 42) ∨ (42 ≤ t ∧ t < 46) by omega) with rfl | rfl | rfl | rfl | rfl | rfl | rfl | rfl | rfl | k | k | k | k | k | k | k | k | k
  · exact ⟨_, h.2.1, (fun fs e => by cases e), (fun fs e => by cases e)⟩
  · exact ⟨_, h.2.2.1, (fun fs e => by cases e), (fun fs e => by cases e)⟩
  · exact ⟨_, h.2.2.2.1, (fun fs e => by cases e), (fun fs e => by cases e)⟩
  · exact ⟨_, h.2.2.2.2.1, (fun fs e => by cases e), (fun fs e => by cases e)⟩
  · exact ⟨_, h.2.2.2.2.2.1, (fun fs e => by cases e), (fun fs e => by cases e)⟩
  · exact ⟨_, h.2.2.2.2.2.2.1, (fun fs e => by cases e), (fun fs e => by cases e)⟩
  · exact ⟨_, h.2.2.2.2.2.2.2.1, (fun fs e => by cases e), (fun fs e => by cases e)⟩
  · exact ⟨_, h.2.2.2.2.2.2.2.2.1, (fun fs e => by cases e), (fun fs e => by cases e)⟩
  · exact ⟨_, h.2.2.2.2.2.2.2.2.2.1, (fun fs e => by cases e), (fun fs e => by cases e)⟩
  · have := h.2.2.2.2.2.2.2.2.2.2.1 (t - 10) (by omega)
    rw [show 10 + (t - 10) = t by omega] at this
    exact ⟨_, this, (fun fs e => by cases e), (fun fs e => by cases e)⟩
  · have := h.2.2.2.2.2.2.2.2.2.2.2.1 (t - 14) (by omega)
    rw [show 14 + (t - 14) = t by omega] at this
    exact ⟨_, this, (fun fs e => by cases e), (fun fs e => by cases e)⟩
  · have := h.2.2.2.2.2.2.2.2.2.2.2.2.1 (t - 18) (by omega)
    rw [show 18 + (t - 18) = t by omega] at this
    exact ⟨_, this, (fun fs e => by cases e), (fun fs e => by cases e)⟩
  · have := h.2.2.2.2.2.2.2.2.2.2.2.2.2.1 (t - 22) (by omega)
    rw [show 22 + (t - 22) = t by omega] at this
    exact ⟨_, this, (fun fs e => by cases e), (fun fs e => by cases e)⟩
  · have := h.2.2.2.2.2.2.2.2.2.2.2.2.2.2.1 (t - 26) (by omega)
    rw [show 26 + (t - 26) = t by omega] at this
    exact ⟨_, this, (fun fs e => by cases e), (fun fs e => by cases e)⟩
  · have := h.2.2.2.2.2.2.2.2.2.2.2.2.2.2.2.1 (t - 30) (by omega)
    rw [show 30 + (t - 30) = t by omega] at this
    exact ⟨_, this, (fun fs e => by cases e), (fun fs e => by cases e)⟩
  · have := h.2.2.2.2.2.2.2.2.2.2.2.2.2.2.2.2.1 (t - 34) (by omega)
    rw [show 34 + (t - 34) = t by omega] at this
    exact ⟨_, this, (fun fs e => by cases e), (fun fs e => by cases e)⟩
  · have := h.2.2.2.2.2.2.2.2.2.2.2.2.2.2.2.2.2.1 (t - 38) (by omega)
    rw [show 38 + (t - 38) = t by omega] at this
    exact ⟨_, this, (fun fs e => by cases e), (fun fs e => by cases e)⟩
  · have := h.2.2.2.2.2.2.2.2.2.2.2.2.2.2.2.2.2.2.1 (t - 42) (by omega)
    rw [show 42 + (t - 42) = t by omega] at this
    exact ⟨_, this, (fun fs e => by cases e), (fun fs e => by cases e)⟩
theorem SW.ne7 {cs : Nat → ClassId} {ad : Nat → Nat} {T : Sg} {jf : Nat → Nat → Option Nat} {w : fW} (h : SW cs ad T jf w) {t q : Nat} {fs : List Value} (hq : w q = some (.inr (7, fs))) (ht : t < 46) (h9 : t ≠ 9) : q ≠ ad t := by
  obtain ⟨e, h1, h2, -⟩ := h.fix ht h9
  intro hh
  rw [hh, h1] at hq
  exact h2 fs (Option.some.inj hq)
theorem SW.ne6 {cs : Nat → ClassId} {ad : Nat → Nat} {T : Sg} {jf : Nat → Nat → Option Nat} {w : fW} (h : SW cs ad T jf w) {t q : Nat} {fs : List Value} (hq : w q = some (.inr (6, fs))) (ht : t < 46) (h9 : t ≠ 9) : q ≠ ad t := by
  obtain ⟨e, h1, -, h2⟩ := h.fix ht h9
  intro hh
  rw [hh, h1] at hq
  exact h2 fs (Option.some.inj hq)
theorem SW.st {cs : Nat → ClassId} {ad : Nat → Nat} {T : Sg} {jf : Nat → Nat → Option Nat} {w : fW} (h : SW cs ad T jf w) {i : Nat} (hi : i < 4) (x : aS) : SW cs ad (setSt T i x) jf (va_up w (ad (10 + i)) (some (cSt x))) := by
  have hne : ∀ t, t < 46 → t ≠ 10 + i → ad t ≠ ad (10 + i) := fun t h1 h2 => h.1.ne h1 (by omega) h2
  exact ⟨h.1,
    by rw [va_up_ne _ _ (hne _ (by omega) (by omega))]; exact h.2.1,
    by rw [va_up_ne _ _ (hne _ (by omega) (by omega))]; exact h.2.2.1,
    by rw [va_up_ne _ _ (hne _ (by omega) (by omega))]; exact h.2.2.2.1,
    by rw [va_up_ne _ _ (hne _ (by omega) (by omega))]; exact h.2.2.2.2.1,
    by rw [va_up_ne _ _ (hne _ (by omega) (by omega))]; exact h.2.2.2.2.2.1,
    by rw [va_up_ne _ _ (hne _ (by omega) (by omega))]; exact h.2.2.2.2.2.2.1,
    by rw [va_up_ne _ _ (hne _ (by omega) (by omega))]; exact h.2.2.2.2.2.2.2.1,
    by rw [va_up_ne _ _ (hne _ (by omega) (by omega))]; exact h.2.2.2.2.2.2.2.2.1,
    by rw [va_up_ne _ _ (hne _ (by omega) (by omega))]; exact h.2.2.2.2.2.2.2.2.2.1,
    fun j hj => by
      by_cases hji : j = i
      · subst hji; rw [va_up_self, gSt, va_up_self]
      · rw [va_up_ne _ _ (hne _ (by omega) (by omega)), gSt, va_up_ne _ _ hji]; exact h.2.2.2.2.2.2.2.2.2.2.1 j hj,
    fun j hj => by rw [va_up_ne _ _ (hne _ (by omega) (by omega))]; exact h.2.2.2.2.2.2.2.2.2.2.2.1 j hj,
    fun j hj => by rw [va_up_ne _ _ (hne _ (by omega) (by omega))]; exact h.2.2.2.2.2.2.2.2.2.2.2.2.1 j hj,
    fun j hj => by rw [va_up_ne _ _ (hne _ (by omega) (by omega))]; exact h.2.2.2.2.2.2.2.2.2.2.2.2.2.1 j hj,
    fun j hj => by rw [va_up_ne _ _ (hne _ (by omega) (by omega))]; exact h.2.2.2.2.2.2.2.2.2.2.2.2.2.2.1 j hj,
    fun j hj => by rw [va_up_ne _ _ (hne _ (by omega) (by omega))]; exact h.2.2.2.2.2.2.2.2.2.2.2.2.2.2.2.1 j hj,
    fun j hj => by rw [va_up_ne _ _ (hne _ (by omega) (by omega))]; exact h.2.2.2.2.2.2.2.2.2.2.2.2.2.2.2.2.1 j hj,
    fun j hj => by rw [va_up_ne _ _ (hne _ (by omega) (by omega))]; exact h.2.2.2.2.2.2.2.2.2.2.2.2.2.2.2.2.2.1 j hj,
    fun j hj => by rw [va_up_ne _ _ (hne _ (by omega) (by omega))]; exact h.2.2.2.2.2.2.2.2.2.2.2.2.2.2.2.2.2.2.1 j hj,
    fun q x hq => by rw [va_up_ne _ _ (h.ne7 (h.2.2.2.2.2.2.2.2.2.2.2.2.2.2.2.2.2.2.2.1 q x hq) (by omega) (by omega))]; exact h.2.2.2.2.2.2.2.2.2.2.2.2.2.2.2.2.2.2.2.1 q x hq,
    fun j k hj hk => by
      obtain ⟨q, h1, h2⟩ := h.2.2.2.2.2.2.2.2.2.2.2.2.2.2.2.2.2.2.2.2 j k hj hk
      exact ⟨q, h1, by rw [va_up_ne _ _ (h.ne6 h2 (by omega) (by omega))]; exact h2⟩⟩
theorem SW.baO {cs : Nat → ClassId} {ad : Nat → Nat} {T : Sg} {jf : Nat → Nat → Option Nat} {w : fW} (h : SW cs ad T jf w) {i : Nat} (hi : i < 4) (n : Int32) : SW cs ad (setBa T i (n, (tBa T i).2)) jf (va_up w (ad (14 + i)) (some (.inr (0, [.ref (ad (18 + i)), .int n])))) := by
  have hne : ∀ t, t < 46 → t ≠ 14 + i → ad t ≠ ad (14 + i) := fun t h1 h2 => h.1.ne h1 (by omega) h2
  exact ⟨h.1,
    by rw [va_up_ne _ _ (hne _ (by omega) (by omega))]; exact h.2.1,
    by rw [va_up_ne _ _ (hne _ (by omega) (by omega))]; exact h.2.2.1,
    by rw [va_up_ne _ _ (hne _ (by omega) (by omega))]; exact h.2.2.2.1,
    by rw [va_up_ne _ _ (hne _ (by omega) (by omega))]; exact h.2.2.2.2.1,
    by rw [va_up_ne _ _ (hne _ (by omega) (by omega))]; exact h.2.2.2.2.2.1,
    by rw [va_up_ne _ _ (hne _ (by omega) (by omega))]; exact h.2.2.2.2.2.2.1,
    by rw [va_up_ne _ _ (hne _ (by omega) (by omega))]; exact h.2.2.2.2.2.2.2.1,
    by rw [va_up_ne _ _ (hne _ (by omega) (by omega))]; exact h.2.2.2.2.2.2.2.2.1,
    by rw [va_up_ne _ _ (hne _ (by omega) (by omega))]; exact h.2.2.2.2.2.2.2.2.2.1,
    fun j hj => by rw [va_up_ne _ _ (hne _ (by omega) (by omega))]; exact h.2.2.2.2.2.2.2.2.2.2.1 j hj,
    fun j hj => by
      by_cases hji : j = i
      · subst hji; rw [va_up_self, gBa, va_up_self]
      · rw [va_up_ne _ _ (hne _ (by omega) (by omega)), gBa, va_up_ne _ _ hji]; exact h.2.2.2.2.2.2.2.2.2.2.2.1 j hj,
    fun j hj => by rw [va_up_ne _ _ (hne _ (by omega) (by omega))]; exact (by
      by_cases hji : j = i
      · subst hji; rw [gBa, va_up_self]; exact h.2.2.2.2.2.2.2.2.2.2.2.2.1 j hj
      · rw [gBa, va_up_ne _ _ hji]; exact h.2.2.2.2.2.2.2.2.2.2.2.2.1 j hj),
    fun j hj => by rw [va_up_ne _ _ (hne _ (by omega) (by omega))]; exact h.2.2.2.2.2.2.2.2.2.2.2.2.2.1 j hj,
    fun j hj => by rw [va_up_ne _ _ (hne _ (by omega) (by omega))]; exact h.2.2.2.2.2.2.2.2.2.2.2.2.2.2.1 j hj,
    fun j hj => by rw [va_up_ne _ _ (hne _ (by omega) (by omega))]; exact h.2.2.2.2.2.2.2.2.2.2.2.2.2.2.2.1 j hj,
    fun j hj => by rw [va_up_ne _ _ (hne _ (by omega) (by omega))]; exact h.2.2.2.2.2.2.2.2.2.2.2.2.2.2.2.2.1 j hj,
    fun j hj => by rw [va_up_ne _ _ (hne _ (by omega) (by omega))]; exact h.2.2.2.2.2.2.2.2.2.2.2.2.2.2.2.2.2.1 j hj,
    fun j hj => by rw [va_up_ne _ _ (hne _ (by omega) (by omega))]; exact h.2.2.2.2.2.2.2.2.2.2.2.2.2.2.2.2.2.2.1 j hj,
    fun q x hq => by rw [va_up_ne _ _ (h.ne7 (h.2.2.2.2.2.2.2.2.2.2.2.2.2.2.2.2.2.2.2.1 q x hq) (by omega) (by omega))]; exact h.2.2.2.2.2.2.2.2.2.2.2.2.2.2.2.2.2.2.2.1 q x hq,
    fun j k hj hk => by
      obtain ⟨q, h1, h2⟩ := h.2.2.2.2.2.2.2.2.2.2.2.2.2.2.2.2.2.2.2.2 j k hj hk
      exact ⟨q, h1, by rw [va_up_ne _ _ (h.ne6 h2 (by omega) (by omega))]; exact h2⟩⟩
theorem SW.baA {cs : Nat → ClassId} {ad : Nat → Nat} {T : Sg} {jf : Nat → Nat → Option Nat} {w : fW} (h : SW cs ad T jf w) {i : Nat} (hi : i < 4) (f : Nat → Int32) : SW cs ad (setBa T i ((tBa T i).1, f)) jf (va_up w (ad (18 + i)) (some (.inl (cs 0, 12, .inl f)))) := by
  have hne : ∀ t, t < 46 → t ≠ 18 + i → ad t ≠ ad (18 + i) := fun t h1 h2 => h.1.ne h1 (by omega) h2
  exact ⟨h.1,
    by rw [va_up_ne _ _ (hne _ (by omega) (by omega))]; exact h.2.1,
    by rw [va_up_ne _ _ (hne _ (by omega) (by omega))]; exact h.2.2.1,
    by rw [va_up_ne _ _ (hne _ (by omega) (by omega))]; exact h.2.2.2.1,
    by rw [va_up_ne _ _ (hne _ (by omega) (by omega))]; exact h.2.2.2.2.1,
    by rw [va_up_ne _ _ (hne _ (by omega) (by omega))]; exact h.2.2.2.2.2.1,
    by rw [va_up_ne _ _ (hne _ (by omega) (by omega))]; exact h.2.2.2.2.2.2.1,
    by rw [va_up_ne _ _ (hne _ (by omega) (by omega))]; exact h.2.2.2.2.2.2.2.1,
    by rw [va_up_ne _ _ (hne _ (by omega) (by omega))]; exact h.2.2.2.2.2.2.2.2.1,
    by rw [va_up_ne _ _ (hne _ (by omega) (by omega))]; exact h.2.2.2.2.2.2.2.2.2.1,
    fun j hj => by rw [va_up_ne _ _ (hne _ (by omega) (by omega))]; exact h.2.2.2.2.2.2.2.2.2.2.1 j hj,
    fun j hj => by rw [va_up_ne _ _ (hne _ (by omega) (by omega))]; exact (by
      by_cases hji : j = i
      · subst hji; rw [gBa, va_up_self]; exact h.2.2.2.2.2.2.2.2.2.2.2.1 j hj
      · rw [gBa, va_up_ne _ _ hji]; exact h.2.2.2.2.2.2.2.2.2.2.2.1 j hj),
    fun j hj => by
      by_cases hji : j = i
      · subst hji; rw [va_up_self, gBa, va_up_self]
      · rw [va_up_ne _ _ (hne _ (by omega) (by omega)), gBa, va_up_ne _ _ hji]; exact h.2.2.2.2.2.2.2.2.2.2.2.2.1 j hj,
    fun j hj => by rw [va_up_ne _ _ (hne _ (by omega) (by omega))]; exact h.2.2.2.2.2.2.2.2.2.2.2.2.2.1 j hj,
    fun j hj => by rw [va_up_ne _ _ (hne _ (by omega) (by omega))]; exact h.2.2.2.2.2.2.2.2.2.2.2.2.2.2.1 j hj,
    fun j hj => by rw [va_up_ne _ _ (hne _ (by omega) (by omega))]; exact h.2.2.2.2.2.2.2.2.2.2.2.2.2.2.2.1 j hj,
    fun j hj => by rw [va_up_ne _ _ (hne _ (by omega) (by omega))]; exact h.2.2.2.2.2.2.2.2.2.2.2.2.2.2.2.2.1 j hj,
    fun j hj => by rw [va_up_ne _ _ (hne _ (by omega) (by omega))]; exact h.2.2.2.2.2.2.2.2.2.2.2.2.2.2.2.2.2.1 j hj,
    fun j hj => by rw [va_up_ne _ _ (hne _ (by omega) (by omega))]; exact h.2.2.2.2.2.2.2.2.2.2.2.2.2.2.2.2.2.2.1 j hj,
    fun q x hq => by rw [va_up_ne _ _ (h.ne7 (h.2.2.2.2.2.2.2.2.2.2.2.2.2.2.2.2.2.2.2.1 q x hq) (by omega) (by omega))]; exact h.2.2.2.2.2.2.2.2.2.2.2.2.2.2.2.2.2.2.2.1 q x hq,
    fun j k hj hk => by
      obtain ⟨q, h1, h2⟩ := h.2.2.2.2.2.2.2.2.2.2.2.2.2.2.2.2.2.2.2.2 j k hj hk
      exact ⟨q, h1, by rw [va_up_ne _ _ (h.ne6 h2 (by omega) (by omega))]; exact h2⟩⟩
theorem SW.raO {cs : Nat → ClassId} {ad : Nat → Nat} {T : Sg} {jf : Nat → Nat → Option Nat} {w : fW} (h : SW cs ad T jf w) {i : Nat} (hi : i < 4) (n : Int32) (b : Bool) : SW cs ad (setRa T i (n, b, (tRa T i).2.2)) jf (va_up w (ad (22 + i)) (some (.inr (3, [.ref (ad (26 + i)), .int n, .int (bz b)])))) := by
  have hne : ∀ t, t < 46 → t ≠ 22 + i → ad t ≠ ad (22 + i) := fun t h1 h2 => h.1.ne h1 (by omega) h2
  exact ⟨h.1,
    by rw [va_up_ne _ _ (hne _ (by omega) (by omega))]; exact h.2.1,
    by rw [va_up_ne _ _ (hne _ (by omega) (by omega))]; exact h.2.2.1,
    by rw [va_up_ne _ _ (hne _ (by omega) (by omega))]; exact h.2.2.2.1,
    by rw [va_up_ne _ _ (hne _ (by omega) (by omega))]; exact h.2.2.2.2.1,
    by rw [va_up_ne _ _ (hne _ (by omega) (by omega))]; exact h.2.2.2.2.2.1,
    by rw [va_up_ne _ _ (hne _ (by omega) (by omega))]; exact h.2.2.2.2.2.2.1,
    by rw [va_up_ne _ _ (hne _ (by omega) (by omega))]; exact h.2.2.2.2.2.2.2.1,
    by rw [va_up_ne _ _ (hne _ (by omega) (by omega))]; exact h.2.2.2.2.2.2.2.2.1,
    by rw [va_up_ne _ _ (hne _ (by omega) (by omega))]; exact h.2.2.2.2.2.2.2.2.2.1,
    fun j hj => by rw [va_up_ne _ _ (hne _ (by omega) (by omega))]; exact h.2.2.2.2.2.2.2.2.2.2.1 j hj,
    fun j hj => by rw [va_up_ne _ _ (hne _ (by omega) (by omega))]; exact h.2.2.2.2.2.2.2.2.2.2.2.1 j hj,
    fun j hj => by rw [va_up_ne _ _ (hne _ (by omega) (by omega))]; exact h.2.2.2.2.2.2.2.2.2.2.2.2.1 j hj,
    fun j hj => by
      by_cases hji : j = i
      · subst hji; rw [va_up_self, gRa, va_up_self]
      · rw [va_up_ne _ _ (hne _ (by omega) (by omega)), gRa, va_up_ne _ _ hji]; exact h.2.2.2.2.2.2.2.2.2.2.2.2.2.1 j hj,
    fun j hj => by rw [va_up_ne _ _ (hne _ (by omega) (by omega))]; exact (by
      by_cases hji : j = i
      · subst hji; rw [gRa, va_up_self]; exact h.2.2.2.2.2.2.2.2.2.2.2.2.2.2.1 j hj
      · rw [gRa, va_up_ne _ _ hji]; exact h.2.2.2.2.2.2.2.2.2.2.2.2.2.2.1 j hj),
    fun j hj => by rw [va_up_ne _ _ (hne _ (by omega) (by omega))]; exact h.2.2.2.2.2.2.2.2.2.2.2.2.2.2.2.1 j hj,
    fun j hj => by rw [va_up_ne _ _ (hne _ (by omega) (by omega))]; exact h.2.2.2.2.2.2.2.2.2.2.2.2.2.2.2.2.1 j hj,
    fun j hj => by rw [va_up_ne _ _ (hne _ (by omega) (by omega))]; exact h.2.2.2.2.2.2.2.2.2.2.2.2.2.2.2.2.2.1 j hj,
    fun j hj => by rw [va_up_ne _ _ (hne _ (by omega) (by omega))]; exact h.2.2.2.2.2.2.2.2.2.2.2.2.2.2.2.2.2.2.1 j hj,
    fun q x hq => by rw [va_up_ne _ _ (h.ne7 (h.2.2.2.2.2.2.2.2.2.2.2.2.2.2.2.2.2.2.2.1 q x hq) (by omega) (by omega))]; exact h.2.2.2.2.2.2.2.2.2.2.2.2.2.2.2.2.2.2.2.1 q x hq,
    fun j k hj hk => by
      obtain ⟨q, h1, h2⟩ := h.2.2.2.2.2.2.2.2.2.2.2.2.2.2.2.2.2.2.2.2 j k hj hk
      exact ⟨q, h1, by rw [va_up_ne _ _ (h.ne6 h2 (by omega) (by omega))]; exact h2⟩⟩
theorem SW.raA {cs : Nat → ClassId} {ad : Nat → Nat} {T : Sg} {jf : Nat → Nat → Option Nat} {w : fW} (h : SW cs ad T jf w) {i : Nat} (hi : i < 4) (f : Nat → Option Nat) : SW cs ad (setRa T i ((tRa T i).1, (tRa T i).2.1, f)) jf (va_up w (ad (26 + i)) (some (.inl (cs 7, 12, .inr (.inr (.inr (.inr f))))))) := by
  have hne : ∀ t, t < 46 → t ≠ 26 + i → ad t ≠ ad (26 + i) := fun t h1 h2 => h.1.ne h1 (by omega) h2
  exact ⟨h.1,
    by rw [va_up_ne _ _ (hne _ (by omega) (by omega))]; exact h.2.1,
    by rw [va_up_ne _ _ (hne _ (by omega) (by omega))]; exact h.2.2.1,
    by rw [va_up_ne _ _ (hne _ (by omega) (by omega))]; exact h.2.2.2.1,
    by rw [va_up_ne _ _ (hne _ (by omega) (by omega))]; exact h.2.2.2.2.1,
    by rw [va_up_ne _ _ (hne _ (by omega) (by omega))]; exact h.2.2.2.2.2.1,
    by rw [va_up_ne _ _ (hne _ (by omega) (by omega))]; exact h.2.2.2.2.2.2.1,
    by rw [va_up_ne _ _ (hne _ (by omega) (by omega))]; exact h.2.2.2.2.2.2.2.1,
    by rw [va_up_ne _ _ (hne _ (by omega) (by omega))]; exact h.2.2.2.2.2.2.2.2.1,
    by rw [va_up_ne _ _ (hne _ (by omega) (by omega))]; exact h.2.2.2.2.2.2.2.2.2.1,
    fun j hj => by rw [va_up_ne _ _ (hne _ (by omega) (by omega))]; exact h.2.2.2.2.2.2.2.2.2.2.1 j hj,
    fun j hj => by rw [va_up_ne _ _ (hne _ (by omega) (by omega))]; exact h.2.2.2.2.2.2.2.2.2.2.2.1 j hj,
    fun j hj => by rw [va_up_ne _ _ (hne _ (by omega) (by omega))]; exact h.2.2.2.2.2.2.2.2.2.2.2.2.1 j hj,
    fun j hj => by rw [va_up_ne _ _ (hne _ (by omega) (by omega))]; exact (by
      by_cases hji : j = i
      · subst hji; rw [gRa, va_up_self]; exact h.2.2.2.2.2.2.2.2.2.2.2.2.2.1 j hj
      · rw [gRa, va_up_ne _ _ hji]; exact h.2.2.2.2.2.2.2.2.2.2.2.2.2.1 j hj),
    fun j hj => by
      by_cases hji : j = i
      · subst hji; rw [va_up_self, gRa, va_up_self]
      · rw [va_up_ne _ _ (hne _ (by omega) (by omega)), gRa, va_up_ne _ _ hji]; exact h.2.2.2.2.2.2.2.2.2.2.2.2.2.2.1 j hj,
    fun j hj => by rw [va_up_ne _ _ (hne _ (by omega) (by omega))]; exact h.2.2.2.2.2.2.2.2.2.2.2.2.2.2.2.1 j hj,
    fun j hj => by rw [va_up_ne _ _ (hne _ (by omega) (by omega))]; exact h.2.2.2.2.2.2.2.2.2.2.2.2.2.2.2.2.1 j hj,
    fun j hj => by rw [va_up_ne _ _ (hne _ (by omega) (by omega))]; exact h.2.2.2.2.2.2.2.2.2.2.2.2.2.2.2.2.2.1 j hj,
    fun j hj => by rw [va_up_ne _ _ (hne _ (by omega) (by omega))]; exact h.2.2.2.2.2.2.2.2.2.2.2.2.2.2.2.2.2.2.1 j hj,
    fun q x hq => by rw [va_up_ne _ _ (h.ne7 (h.2.2.2.2.2.2.2.2.2.2.2.2.2.2.2.2.2.2.2.1 q x hq) (by omega) (by omega))]; exact h.2.2.2.2.2.2.2.2.2.2.2.2.2.2.2.2.2.2.2.1 q x hq,
    fun j k hj hk => by
      obtain ⟨q, h1, h2⟩ := h.2.2.2.2.2.2.2.2.2.2.2.2.2.2.2.2.2.2.2.2 j k hj hk
      exact ⟨q, h1, by rw [va_up_ne _ _ (h.ne6 h2 (by omega) (by omega))]; exact h2⟩⟩
theorem SW.grO {cs : Nat → ClassId} {ad : Nat → Nat} {T : Sg} {jf : Nat → Nat → Option Nat} {w : fW} (h : SW cs ad T jf w) {i : Nat} (hi : i < 4) (n k : Int32) : SW cs ad (setGr T i (n, k, (tGr T i).2.2)) jf (va_up w (ad (30 + i)) (some (.inr (1, [.ref (ad (34 + i)), .int n, .int k])))) := by
  have hne : ∀ t, t < 46 → t ≠ 30 + i → ad t ≠ ad (30 + i) := fun t h1 h2 => h.1.ne h1 (by omega) h2
  exact ⟨h.1,
    by rw [va_up_ne _ _ (hne _ (by omega) (by omega))]; exact h.2.1,
    by rw [va_up_ne _ _ (hne _ (by omega) (by omega))]; exact h.2.2.1,
    by rw [va_up_ne _ _ (hne _ (by omega) (by omega))]; exact h.2.2.2.1,
    by rw [va_up_ne _ _ (hne _ (by omega) (by omega))]; exact h.2.2.2.2.1,
    by rw [va_up_ne _ _ (hne _ (by omega) (by omega))]; exact h.2.2.2.2.2.1,
    by rw [va_up_ne _ _ (hne _ (by omega) (by omega))]; exact h.2.2.2.2.2.2.1,
    by rw [va_up_ne _ _ (hne _ (by omega) (by omega))]; exact h.2.2.2.2.2.2.2.1,
    by rw [va_up_ne _ _ (hne _ (by omega) (by omega))]; exact h.2.2.2.2.2.2.2.2.1,
    by rw [va_up_ne _ _ (hne _ (by omega) (by omega))]; exact h.2.2.2.2.2.2.2.2.2.1,
    fun j hj => by rw [va_up_ne _ _ (hne _ (by omega) (by omega))]; exact h.2.2.2.2.2.2.2.2.2.2.1 j hj,
    fun j hj => by rw [va_up_ne _ _ (hne _ (by omega) (by omega))]; exact h.2.2.2.2.2.2.2.2.2.2.2.1 j hj,
    fun j hj => by rw [va_up_ne _ _ (hne _ (by omega) (by omega))]; exact h.2.2.2.2.2.2.2.2.2.2.2.2.1 j hj,
    fun j hj => by rw [va_up_ne _ _ (hne _ (by omega) (by omega))]; exact h.2.2.2.2.2.2.2.2.2.2.2.2.2.1 j hj,
    fun j hj => by rw [va_up_ne _ _ (hne _ (by omega) (by omega))]; exact h.2.2.2.2.2.2.2.2.2.2.2.2.2.2.1 j hj,
    fun j hj => by
      by_cases hji : j = i
      · subst hji; rw [va_up_self, gGr, va_up_self]
      · rw [va_up_ne _ _ (hne _ (by omega) (by omega)), gGr, va_up_ne _ _ hji]; exact h.2.2.2.2.2.2.2.2.2.2.2.2.2.2.2.1 j hj,
    fun j hj => by rw [va_up_ne _ _ (hne _ (by omega) (by omega))]; exact (by
      by_cases hji : j = i
      · subst hji; rw [gGr, va_up_self]; exact h.2.2.2.2.2.2.2.2.2.2.2.2.2.2.2.2.1 j hj
      · rw [gGr, va_up_ne _ _ hji]; exact h.2.2.2.2.2.2.2.2.2.2.2.2.2.2.2.2.1 j hj),
    fun j hj => by rw [va_up_ne _ _ (hne _ (by omega) (by omega))]; exact h.2.2.2.2.2.2.2.2.2.2.2.2.2.2.2.2.2.1 j hj,
    fun j hj => by rw [va_up_ne _ _ (hne _ (by omega) (by omega))]; exact h.2.2.2.2.2.2.2.2.2.2.2.2.2.2.2.2.2.2.1 j hj,
    fun q x hq => by rw [va_up_ne _ _ (h.ne7 (h.2.2.2.2.2.2.2.2.2.2.2.2.2.2.2.2.2.2.2.1 q x hq) (by omega) (by omega))]; exact h.2.2.2.2.2.2.2.2.2.2.2.2.2.2.2.2.2.2.2.1 q x hq,
    fun j k hj hk => by
      obtain ⟨q, h1, h2⟩ := h.2.2.2.2.2.2.2.2.2.2.2.2.2.2.2.2.2.2.2.2 j k hj hk
      exact ⟨q, h1, by rw [va_up_ne _ _ (h.ne6 h2 (by omega) (by omega))]; exact h2⟩⟩
theorem SW.grA {cs : Nat → ClassId} {ad : Nat → Nat} {T : Sg} {jf : Nat → Nat → Option Nat} {w : fW} (h : SW cs ad T jf w) {i : Nat} (hi : i < 4) (f : Nat → Int32) : SW cs ad (setGr T i ((tGr T i).1, (tGr T i).2.1, f)) jf (va_up w (ad (34 + i)) (some (.inl (cs 0, 144, .inl f)))) := by
  have hne : ∀ t, t < 46 → t ≠ 34 + i → ad t ≠ ad (34 + i) := fun t h1 h2 => h.1.ne h1 (by omega) h2
  exact ⟨h.1,
    by rw [va_up_ne _ _ (hne _ (by omega) (by omega))]; exact h.2.1,
    by rw [va_up_ne _ _ (hne _ (by omega) (by omega))]; exact h.2.2.1,
    by rw [va_up_ne _ _ (hne _ (by omega) (by omega))]; exact h.2.2.2.1,
    by rw [va_up_ne _ _ (hne _ (by omega) (by omega))]; exact h.2.2.2.2.1,
    by rw [va_up_ne _ _ (hne _ (by omega) (by omega))]; exact h.2.2.2.2.2.1,
    by rw [va_up_ne _ _ (hne _ (by omega) (by omega))]; exact h.2.2.2.2.2.2.1,
    by rw [va_up_ne _ _ (hne _ (by omega) (by omega))]; exact h.2.2.2.2.2.2.2.1,
    by rw [va_up_ne _ _ (hne _ (by omega) (by omega))]; exact h.2.2.2.2.2.2.2.2.1,
    by rw [va_up_ne _ _ (hne _ (by omega) (by omega))]; exact h.2.2.2.2.2.2.2.2.2.1,
    fun j hj => by rw [va_up_ne _ _ (hne _ (by omega) (by omega))]; exact h.2.2.2.2.2.2.2.2.2.2.1 j hj,
    fun j hj => by rw [va_up_ne _ _ (hne _ (by omega) (by omega))]; exact h.2.2.2.2.2.2.2.2.2.2.2.1 j hj,
    fun j hj => by rw [va_up_ne _ _ (hne _ (by omega) (by omega))]; exact h.2.2.2.2.2.2.2.2.2.2.2.2.1 j hj,
    fun j hj => by rw [va_up_ne _ _ (hne _ (by omega) (by omega))]; exact h.2.2.2.2.2.2.2.2.2.2.2.2.2.1 j hj,
    fun j hj => by rw [va_up_ne _ _ (hne _ (by omega) (by omega))]; exact h.2.2.2.2.2.2.2.2.2.2.2.2.2.2.1 j hj,
    fun j hj => by rw [va_up_ne _ _ (hne _ (by omega) (by omega))]; exact (by
      by_cases hji : j = i
      · subst hji; rw [gGr, va_up_self]; exact h.2.2.2.2.2.2.2.2.2.2.2.2.2.2.2.1 j hj
      · rw [gGr, va_up_ne _ _ hji]; exact h.2.2.2.2.2.2.2.2.2.2.2.2.2.2.2.1 j hj),
    fun j hj => by
      by_cases hji : j = i
      · subst hji; rw [va_up_self, gGr, va_up_self]
      · rw [va_up_ne _ _ (hne _ (by omega) (by omega)), gGr, va_up_ne _ _ hji]; exact h.2.2.2.2.2.2.2.2.2.2.2.2.2.2.2.2.1 j hj,
    fun j hj => by rw [va_up_ne _ _ (hne _ (by omega) (by omega))]; exact h.2.2.2.2.2.2.2.2.2.2.2.2.2.2.2.2.2.1 j hj,
    fun j hj => by rw [va_up_ne _ _ (hne _ (by omega) (by omega))]; exact h.2.2.2.2.2.2.2.2.2.2.2.2.2.2.2.2.2.2.1 j hj,
    fun q x hq => by rw [va_up_ne _ _ (h.ne7 (h.2.2.2.2.2.2.2.2.2.2.2.2.2.2.2.2.2.2.2.1 q x hq) (by omega) (by omega))]; exact h.2.2.2.2.2.2.2.2.2.2.2.2.2.2.2.2.2.2.2.1 q x hq,
    fun j k hj hk => by
      obtain ⟨q, h1, h2⟩ := h.2.2.2.2.2.2.2.2.2.2.2.2.2.2.2.2.2.2.2.2 j k hj hk
      exact ⟨q, h1, by rw [va_up_ne _ _ (h.ne6 h2 (by omega) (by omega))]; exact h2⟩⟩
theorem SW.ex {cs : Nat → ClassId} {ad : Nat → Nat} {T : Sg} {jf : Nat → Nat → Option Nat} {w : fW} (h : SW cs ad T jf w) (f : Nat → Int32) : SW cs ad (setEx T f) jf (va_up w (ad (6)) (some (.inl (cs 0, 4, .inl f)))) := by
  have hne : ∀ t, t < 46 → t ≠ 6 → ad t ≠ ad (6) := fun t h1 h2 => h.1.ne h1 (by omega) h2
  exact ⟨h.1,
    by rw [va_up_ne _ _ (hne _ (by omega) (by omega))]; exact h.2.1,
    by rw [va_up_ne _ _ (hne _ (by omega) (by omega))]; exact h.2.2.1,
    by rw [va_up_ne _ _ (hne _ (by omega) (by omega))]; exact h.2.2.2.1,
    by rw [va_up_ne _ _ (hne _ (by omega) (by omega))]; exact h.2.2.2.2.1,
    by rw [va_up_ne _ _ (hne _ (by omega) (by omega))]; exact h.2.2.2.2.2.1,
    by rw [va_up_ne _ _ (hne _ (by omega) (by omega))]; exact h.2.2.2.2.2.2.1,
    va_up_self _ _ _,
    by rw [va_up_ne _ _ (hne _ (by omega) (by omega))]; exact h.2.2.2.2.2.2.2.2.1,
    by rw [va_up_ne _ _ (hne _ (by omega) (by omega))]; exact h.2.2.2.2.2.2.2.2.2.1,
    fun j hj => by rw [va_up_ne _ _ (hne _ (by omega) (by omega))]; exact h.2.2.2.2.2.2.2.2.2.2.1 j hj,
    fun j hj => by rw [va_up_ne _ _ (hne _ (by omega) (by omega))]; exact h.2.2.2.2.2.2.2.2.2.2.2.1 j hj,
    fun j hj => by rw [va_up_ne _ _ (hne _ (by omega) (by omega))]; exact h.2.2.2.2.2.2.2.2.2.2.2.2.1 j hj,
    fun j hj => by rw [va_up_ne _ _ (hne _ (by omega) (by omega))]; exact h.2.2.2.2.2.2.2.2.2.2.2.2.2.1 j hj,
    fun j hj => by rw [va_up_ne _ _ (hne _ (by omega) (by omega))]; exact h.2.2.2.2.2.2.2.2.2.2.2.2.2.2.1 j hj,
    fun j hj => by rw [va_up_ne _ _ (hne _ (by omega) (by omega))]; exact h.2.2.2.2.2.2.2.2.2.2.2.2.2.2.2.1 j hj,
    fun j hj => by rw [va_up_ne _ _ (hne _ (by omega) (by omega))]; exact h.2.2.2.2.2.2.2.2.2.2.2.2.2.2.2.2.1 j hj,
    fun j hj => by rw [va_up_ne _ _ (hne _ (by omega) (by omega))]; exact h.2.2.2.2.2.2.2.2.2.2.2.2.2.2.2.2.2.1 j hj,
    fun j hj => by rw [va_up_ne _ _ (hne _ (by omega) (by omega))]; exact h.2.2.2.2.2.2.2.2.2.2.2.2.2.2.2.2.2.2.1 j hj,
    fun q x hq => by rw [va_up_ne _ _ (h.ne7 (h.2.2.2.2.2.2.2.2.2.2.2.2.2.2.2.2.2.2.2.1 q x hq) (by omega) (by omega))]; exact h.2.2.2.2.2.2.2.2.2.2.2.2.2.2.2.2.2.2.2.1 q x hq,
    fun j k hj hk => by
      obtain ⟨q, h1, h2⟩ := h.2.2.2.2.2.2.2.2.2.2.2.2.2.2.2.2.2.2.2.2 j k hj hk
      exact ⟨q, h1, by rw [va_up_ne _ _ (h.ne6 h2 (by omega) (by omega))]; exact h2⟩⟩
theorem SW.ta {cs : Nat → ClassId} {ad : Nat → Nat} {T : Sg} {jf : Nat → Nat → Option Nat} {w : fW} (h : SW cs ad T jf w) (f : Nat → Int32) : SW cs ad (setTa T f) jf (va_up w (ad (7)) (some (.inl (cs 0, 8, .inl f)))) := by
  have hne : ∀ t, t < 46 → t ≠ 7 → ad t ≠ ad (7) := fun t h1 h2 => h.1.ne h1 (by omega) h2
  exact ⟨h.1,
    by rw [va_up_ne _ _ (hne _ (by omega) (by omega))]; exact h.2.1,
    by rw [va_up_ne _ _ (hne _ (by omega) (by omega))]; exact h.2.2.1,
    by rw [va_up_ne _ _ (hne _ (by omega) (by omega))]; exact h.2.2.2.1,
    by rw [va_up_ne _ _ (hne _ (by omega) (by omega))]; exact h.2.2.2.2.1,
    by rw [va_up_ne _ _ (hne _ (by omega) (by omega))]; exact h.2.2.2.2.2.1,
    by rw [va_up_ne _ _ (hne _ (by omega) (by omega))]; exact h.2.2.2.2.2.2.1,
    by rw [va_up_ne _ _ (hne _ (by omega) (by omega))]; exact h.2.2.2.2.2.2.2.1,
    va_up_self _ _ _,
    by rw [va_up_ne _ _ (hne _ (by omega) (by omega))]; exact h.2.2.2.2.2.2.2.2.2.1,
    fun j hj => by rw [va_up_ne _ _ (hne _ (by omega) (by omega))]; exact h.2.2.2.2.2.2.2.2.2.2.1 j hj,
    fun j hj => by rw [va_up_ne _ _ (hne _ (by omega) (by omega))]; exact h.2.2.2.2.2.2.2.2.2.2.2.1 j hj,
    fun j hj => by rw [va_up_ne _ _ (hne _ (by omega) (by omega))]; exact h.2.2.2.2.2.2.2.2.2.2.2.2.1 j hj,
    fun j hj => by rw [va_up_ne _ _ (hne _ (by omega) (by omega))]; exact h.2.2.2.2.2.2.2.2.2.2.2.2.2.1 j hj,
    fun j hj => by rw [va_up_ne _ _ (hne _ (by omega) (by omega))]; exact h.2.2.2.2.2.2.2.2.2.2.2.2.2.2.1 j hj,
    fun j hj => by rw [va_up_ne _ _ (hne _ (by omega) (by omega))]; exact h.2.2.2.2.2.2.2.2.2.2.2.2.2.2.2.1 j hj,
    fun j hj => by rw [va_up_ne _ _ (hne _ (by omega) (by omega))]; exact h.2.2.2.2.2.2.2.2.2.2.2.2.2.2.2.2.1 j hj,
    fun j hj => by rw [va_up_ne _ _ (hne _ (by omega) (by omega))]; exact h.2.2.2.2.2.2.2.2.2.2.2.2.2.2.2.2.2.1 j hj,
    fun j hj => by rw [va_up_ne _ _ (hne _ (by omega) (by omega))]; exact h.2.2.2.2.2.2.2.2.2.2.2.2.2.2.2.2.2.2.1 j hj,
    fun q x hq => by rw [va_up_ne _ _ (h.ne7 (h.2.2.2.2.2.2.2.2.2.2.2.2.2.2.2.2.2.2.2.1 q x hq) (by omega) (by omega))]; exact h.2.2.2.2.2.2.2.2.2.2.2.2.2.2.2.2.2.2.2.1 q x hq,
    fun j k hj hk => by
      obtain ⟨q, h1, h2⟩ := h.2.2.2.2.2.2.2.2.2.2.2.2.2.2.2.2.2.2.2.2 j k hj hk
      exact ⟨q, h1, by rw [va_up_ne _ _ (h.ne6 h2 (by omega) (by omega))]; exact h2⟩⟩
theorem SW.re {cs : Nat → ClassId} {ad : Nat → Nat} {T : Sg} {jf : Nat → Nat → Option Nat} {w : fW} (h : SW cs ad T jf w) (x : aRe) : SW cs ad (setRe T x) jf (va_up w (ad (8)) (some (cRe x))) := by
  have hne : ∀ t, t < 46 → t ≠ 8 → ad t ≠ ad (8) := fun t h1 h2 => h.1.ne h1 (by omega) h2
  exact ⟨h.1,
    by rw [va_up_ne _ _ (hne _ (by omega) (by omega))]; exact h.2.1,
    by rw [va_up_ne _ _ (hne _ (by omega) (by omega))]; exact h.2.2.1,
    by rw [va_up_ne _ _ (hne _ (by omega) (by omega))]; exact h.2.2.2.1,
    by rw [va_up_ne _ _ (hne _ (by omega) (by omega))]; exact h.2.2.2.2.1,
    by rw [va_up_ne _ _ (hne _ (by omega) (by omega))]; exact h.2.2.2.2.2.1,
    by rw [va_up_ne _ _ (hne _ (by omega) (by omega))]; exact h.2.2.2.2.2.2.1,
    by rw [va_up_ne _ _ (hne _ (by omega) (by omega))]; exact h.2.2.2.2.2.2.2.1,
    by rw [va_up_ne _ _ (hne _ (by omega) (by omega))]; exact h.2.2.2.2.2.2.2.2.1,
    va_up_self _ _ _,
    fun j hj => by rw [va_up_ne _ _ (hne _ (by omega) (by omega))]; exact h.2.2.2.2.2.2.2.2.2.2.1 j hj,
    fun j hj => by rw [va_up_ne _ _ (hne _ (by omega) (by omega))]; exact h.2.2.2.2.2.2.2.2.2.2.2.1 j hj,
    fun j hj => by rw [va_up_ne _ _ (hne _ (by omega) (by omega))]; exact h.2.2.2.2.2.2.2.2.2.2.2.2.1 j hj,
    fun j hj => by rw [va_up_ne _ _ (hne _ (by omega) (by omega))]; exact h.2.2.2.2.2.2.2.2.2.2.2.2.2.1 j hj,
    fun j hj => by rw [va_up_ne _ _ (hne _ (by omega) (by omega))]; exact h.2.2.2.2.2.2.2.2.2.2.2.2.2.2.1 j hj,
    fun j hj => by rw [va_up_ne _ _ (hne _ (by omega) (by omega))]; exact h.2.2.2.2.2.2.2.2.2.2.2.2.2.2.2.1 j hj,
    fun j hj => by rw [va_up_ne _ _ (hne _ (by omega) (by omega))]; exact h.2.2.2.2.2.2.2.2.2.2.2.2.2.2.2.2.1 j hj,
    fun j hj => by rw [va_up_ne _ _ (hne _ (by omega) (by omega))]; exact h.2.2.2.2.2.2.2.2.2.2.2.2.2.2.2.2.2.1 j hj,
    fun j hj => by rw [va_up_ne _ _ (hne _ (by omega) (by omega))]; exact h.2.2.2.2.2.2.2.2.2.2.2.2.2.2.2.2.2.2.1 j hj,
    fun q x hq => by rw [va_up_ne _ _ (h.ne7 (h.2.2.2.2.2.2.2.2.2.2.2.2.2.2.2.2.2.2.2.1 q x hq) (by omega) (by omega))]; exact h.2.2.2.2.2.2.2.2.2.2.2.2.2.2.2.2.2.2.2.1 q x hq,
    fun j k hj hk => by
      obtain ⟨q, h1, h2⟩ := h.2.2.2.2.2.2.2.2.2.2.2.2.2.2.2.2.2.2.2.2 j k hj hk
      exact ⟨q, h1, by rw [va_up_ne _ _ (h.ne6 h2 (by omega) (by omega))]; exact h2⟩⟩
theorem SW.joE {cs : Nat → ClassId} {ad : Nat → Nat} {T : Sg} {jf : Nat → Nat → Option Nat} {w : fW} (h : SW cs ad T jf w) {i : Nat} (hi : i < 4)  : SW cs ad (setJo T i (0, (tJo T i).2)) jf (va_up w (ad (38 + i)) (some (.inr (2, [.ref (ad (42 + i)), .int 0])))) := by
  have hne : ∀ t, t < 46 → t ≠ 38 + i → ad t ≠ ad (38 + i) := fun t h1 h2 => h.1.ne h1 (by omega) h2
  exact ⟨h.1,
    by rw [va_up_ne _ _ (hne _ (by omega) (by omega))]; exact h.2.1,
    by rw [va_up_ne _ _ (hne _ (by omega) (by omega))]; exact h.2.2.1,
    by rw [va_up_ne _ _ (hne _ (by omega) (by omega))]; exact h.2.2.2.1,
    by rw [va_up_ne _ _ (hne _ (by omega) (by omega))]; exact h.2.2.2.2.1,
    by rw [va_up_ne _ _ (hne _ (by omega) (by omega))]; exact h.2.2.2.2.2.1,
    by rw [va_up_ne _ _ (hne _ (by omega) (by omega))]; exact h.2.2.2.2.2.2.1,
    by rw [va_up_ne _ _ (hne _ (by omega) (by omega))]; exact h.2.2.2.2.2.2.2.1,
    by rw [va_up_ne _ _ (hne _ (by omega) (by omega))]; exact h.2.2.2.2.2.2.2.2.1,
    by rw [va_up_ne _ _ (hne _ (by omega) (by omega))]; exact h.2.2.2.2.2.2.2.2.2.1,
    fun j hj => by rw [va_up_ne _ _ (hne _ (by omega) (by omega))]; exact h.2.2.2.2.2.2.2.2.2.2.1 j hj,
    fun j hj => by rw [va_up_ne _ _ (hne _ (by omega) (by omega))]; exact h.2.2.2.2.2.2.2.2.2.2.2.1 j hj,
    fun j hj => by rw [va_up_ne _ _ (hne _ (by omega) (by omega))]; exact h.2.2.2.2.2.2.2.2.2.2.2.2.1 j hj,
    fun j hj => by rw [va_up_ne _ _ (hne _ (by omega) (by omega))]; exact h.2.2.2.2.2.2.2.2.2.2.2.2.2.1 j hj,
    fun j hj => by rw [va_up_ne _ _ (hne _ (by omega) (by omega))]; exact h.2.2.2.2.2.2.2.2.2.2.2.2.2.2.1 j hj,
    fun j hj => by rw [va_up_ne _ _ (hne _ (by omega) (by omega))]; exact h.2.2.2.2.2.2.2.2.2.2.2.2.2.2.2.1 j hj,
    fun j hj => by rw [va_up_ne _ _ (hne _ (by omega) (by omega))]; exact h.2.2.2.2.2.2.2.2.2.2.2.2.2.2.2.2.1 j hj,
    fun j hj => by
      by_cases hji : j = i
      · subst hji; rw [va_up_self, gJo, va_up_self]
      · rw [va_up_ne _ _ (hne _ (by omega) (by omega)), gJo, va_up_ne _ _ hji]; exact h.2.2.2.2.2.2.2.2.2.2.2.2.2.2.2.2.2.1 j hj,
    fun j hj => by rw [va_up_ne _ _ (hne _ (by omega) (by omega))]; exact h.2.2.2.2.2.2.2.2.2.2.2.2.2.2.2.2.2.2.1 j hj,
    fun q x hq => by rw [va_up_ne _ _ (h.ne7 (h.2.2.2.2.2.2.2.2.2.2.2.2.2.2.2.2.2.2.2.1 q x hq) (by omega) (by omega))]; exact h.2.2.2.2.2.2.2.2.2.2.2.2.2.2.2.2.2.2.2.1 q x hq,
    fun j k hj hk => by
      by_cases hji : j = i
      · subst hji
        rw [gJo, va_up_self] at hk
        exact absurd hk (Nat.not_lt_zero _)
      · rw [gJo, va_up_ne _ _ hji] at hk ⊢
        obtain ⟨q, h1, h2⟩ := h.2.2.2.2.2.2.2.2.2.2.2.2.2.2.2.2.2.2.2.2 j k hj hk
        exact ⟨q, h1, by rw [va_up_ne _ _ (h.ne6 h2 (by omega) (by omega))]; exact h2⟩⟩
theorem SW.wh {cs : Nat → ClassId} {ad : Nat → Nat} {T : Sg} {jf : Nat → Nat → Option Nat} {w : fW} (h : SW cs ad T jf w) {q : Nat} {fs : List Value} (hq : w q = some (.inr (7, fs)) ∨ w q = none) (x : aWh) : SW cs ad (setWh T q x) jf (va_up w q (some (cWh x))) := by
  have hne : ∀ t, t < 46 → t ≠ 9 → ad t ≠ q := fun t h1 h2 => by
    rcases hq with hq | hq
    · exact (h.ne7 hq h1 h2).symm
    · obtain ⟨e, h3, -⟩ := h.fix h1 h2
      exact gx_ne h3 hq
  exact ⟨h.1,
    by rw [va_up_ne _ _ (hne _ (by omega) (by omega))]; exact h.2.1,
    by rw [va_up_ne _ _ (hne _ (by omega) (by omega))]; exact h.2.2.1,
    by rw [va_up_ne _ _ (hne _ (by omega) (by omega))]; exact h.2.2.2.1,
    by rw [va_up_ne _ _ (hne _ (by omega) (by omega))]; exact h.2.2.2.2.1,
    by rw [va_up_ne _ _ (hne _ (by omega) (by omega))]; exact h.2.2.2.2.2.1,
    by rw [va_up_ne _ _ (hne _ (by omega) (by omega))]; exact h.2.2.2.2.2.2.1,
    by rw [va_up_ne _ _ (hne _ (by omega) (by omega))]; exact h.2.2.2.2.2.2.2.1,
    by rw [va_up_ne _ _ (hne _ (by omega) (by omega))]; exact h.2.2.2.2.2.2.2.2.1,
    by rw [va_up_ne _ _ (hne _ (by omega) (by omega))]; exact h.2.2.2.2.2.2.2.2.2.1,
    fun j hj => by rw [va_up_ne _ _ (hne _ (by omega) (by omega))]; exact h.2.2.2.2.2.2.2.2.2.2.1 j hj,
    fun j hj => by rw [va_up_ne _ _ (hne _ (by omega) (by omega))]; exact h.2.2.2.2.2.2.2.2.2.2.2.1 j hj,
    fun j hj => by rw [va_up_ne _ _ (hne _ (by omega) (by omega))]; exact h.2.2.2.2.2.2.2.2.2.2.2.2.1 j hj,
    fun j hj => by rw [va_up_ne _ _ (hne _ (by omega) (by omega))]; exact h.2.2.2.2.2.2.2.2.2.2.2.2.2.1 j hj,
    fun j hj => by rw [va_up_ne _ _ (hne _ (by omega) (by omega))]; exact h.2.2.2.2.2.2.2.2.2.2.2.2.2.2.1 j hj,
    fun j hj => by rw [va_up_ne _ _ (hne _ (by omega) (by omega))]; exact h.2.2.2.2.2.2.2.2.2.2.2.2.2.2.2.1 j hj,
    fun j hj => by rw [va_up_ne _ _ (hne _ (by omega) (by omega))]; exact h.2.2.2.2.2.2.2.2.2.2.2.2.2.2.2.2.1 j hj,
    fun j hj => by rw [va_up_ne _ _ (hne _ (by omega) (by omega))]; exact h.2.2.2.2.2.2.2.2.2.2.2.2.2.2.2.2.2.1 j hj,
    fun j hj => by rw [va_up_ne _ _ (hne _ (by omega) (by omega))]; exact h.2.2.2.2.2.2.2.2.2.2.2.2.2.2.2.2.2.2.1 j hj,
    fun r y hr => by
      by_cases hrq : r = q
      · subst hrq
        rw [gWh, va_up_self] at hr
        rw [va_up_self]
        cases hr
        rfl
      · rw [gWh, va_up_ne _ _ hrq] at hr
        rw [va_up_ne _ _ hrq]
        exact h.2.2.2.2.2.2.2.2.2.2.2.2.2.2.2.2.2.2.2.1 r y hr,
    fun j k hj hk => by
      obtain ⟨r, h1, h2⟩ := h.2.2.2.2.2.2.2.2.2.2.2.2.2.2.2.2.2.2.2.2 j k hj hk
      refine ⟨r, h1, ?_⟩
      rw [va_up_ne]
      · exact h2
      · intro e
        rw [e] at h2
        rcases hq with hq | hq <;> rw [hq] at h2 <;> cases h2⟩
