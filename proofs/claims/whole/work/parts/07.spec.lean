theorem wi_f1 {i n : Int32} (h : i < 0) : wi i n = false := by
  have h1 := Int32.lt_iff_toInt_lt.mp h
  have : ¬ 0 ≤ i := fun q => by have := Int32.le_iff_toInt_le.mp q; omega
  simp [wi, this]
theorem wi_f2 {i n : Int32} (h : n ≤ i) : wi i n = false := by
  have h1 := Int32.le_iff_toInt_le.mp h
  have : ¬ i < n := fun q => by have := Int32.lt_iff_toInt_lt.mp q; omega
  simp [wi, this]
theorem wi_t2 {i n : Int32} (h1 : ¬ i < 0) (h2 : ¬ n ≤ i) : wi i n = true := by
  have a1 : 0 ≤ i := by
    rw [Int32.le_iff_toInt_le]; rw [Int32.lt_iff_toInt_lt] at h1; omega
  have a2 : i < n := by
    rw [Int32.lt_iff_toInt_lt]; rw [Int32.le_iff_toInt_le] at h2; omega
  exact wi_t a1 a2
theorem i_nlt {x y : Int32} : ¬ x < y ↔ y ≤ x := by rw [Int32.lt_iff_toInt_lt, Int32.le_iff_toInt_le]; omega
theorem i_nle {x y : Int32} : ¬ x ≤ y ↔ y < x := by rw [Int32.lt_iff_toInt_lt, Int32.le_iff_toInt_le]; omega
/-- reason of an outcome, as the class reads it -/
def rsn (o : Int64) : Int32 := if o < (-2147483648) then (o - (-9223372036854775808)).toInt32 else 0
/-- a wheel: spokes, disc, turns -/
abbrev aWh : Type := Int32 × Bool × Int32
abbrev cWh (x : aWh) : va_E := .inr (7, [.int x.1, .int (bz x.2.1), .int x.2.2])
/-- a stand: bike, frame, front, rear, lamp, charge -/
abbrev aS : Type := Bool × Int32 × Option Nat × Option Nat × Int32 × Int32
abbrev cSt (x : aS) : va_E := .inr (5, [.int (bz x.1), .int x.2.1, va_rf x.2.2.1, va_rf x.2.2.2.1, .int x.2.2.2.2.1, .int x.2.2.2.2.2])
def sdw (side : Int32) (fo re : Option Nat) : Option Nat := if side &&& 1 = 0 then fo else re
def whT (x : aWh) : Int32 := (x.2.2 + 1) * x.1 + bz x.2.1
def whL (x : aWh) : Int32 := if x.2.1 then 1000 + x.1 else x.1
def whN (c : Int32) : aWh := if c < 100 then (c, false, 0) else (c - 100, true, 0)
/-- an outcome: a reason and an answer -/
def oc (r : Int32 × Int32) : Int64 := if r.1 = 0 then r.2.toInt64 else fl r.1
theorem gx_neA {w : fW} {a b : Nat} {o : Nat × List Value} {x : ClassId × vp_A} (h : w a = some (.inr o)) (h' : w b = some (.inl x)) : a ≠ b := fun e => by rw [e, h'] at h; cases h
theorem gx_neO {w : fW} {a b ci cj : Nat} {fs gs : List Value} (h : w a = some (.inr (ci, fs))) (h' : w b = some (.inr (cj, gs))) (hn : ci ≠ cj) : a ≠ b := fun e => by rw [e, h'] at h; cases h; exact hn rfl
theorem fw_P.arr {D : va_G} {cl : List vw_C} {A : Nat → Prop} {w : fW} {H : Heap} {a n : Nat} {cA : ClassId} {f g : Nat → Int32} (h : fw_P D cl A (va_up w a (some (.inl (cA, n, .inl f)))) H) (hg : ∀ j, j < n → f j = g j) : fw_P D cl A (va_up w a (some (.inl (cA, n, .inl g)))) H := by
  intro b y hb
  by_cases hba : b = a
  · subst hba
    rw [va_up_self] at hb
    cases hb
    obtain ⟨h1, h2⟩ := h b _ (va_up_self _ _ _)
    refine ⟨?_, h2⟩
    have h3 : H[b]? = some (arrV cA n (fun j => .int (f j))) := h1
    show H[b]? = some (arrV cA n (fun j => .int (g j)))
    rw [h3]
    unfold arrV
    have : (fun j : Fin n => Value.int (f j.val)) = (fun j : Fin n => Value.int (g j.val)) := funext fun j => congrArg Value.int (hg j.val j.isLt)
    rw [this]
  · rw [va_up_ne _ _ hba] at hb
    exact h b y (by rw [va_up_ne _ _ hba]; exact hb)
theorem fw_P.arq {D : va_G} {cl : List vw_C} {A : Nat → Prop} {w : fW} {H : Heap} {a n : Nat} {cA : ClassId} {f g : Nat → Option Nat} (h : fw_P D cl A (va_up w a (some (.inl (cA, n, .inr (.inr (.inr (.inr f))))))) H) (hg : ∀ j, j < n → f j = g j) : fw_P D cl A (va_up w a (some (.inl (cA, n, .inr (.inr (.inr (.inr g))))))) H := by
  intro b y hb
  by_cases hba : b = a
  · subst hba
    rw [va_up_self] at hb
    cases hb
    obtain ⟨h1, h2⟩ := h b _ (va_up_self _ _ _)
    refine ⟨?_, h2⟩
    have h3 : H[b]? = some (arrV cA n (fun j => va_rf (f j))) := h1
    show H[b]? = some (arrV cA n (fun j => va_rf (g j)))
    rw [h3]
    unfold arrV
    have : (fun j : Fin n => va_rf (f j.val)) = (fun j : Fin n => va_rf (g j.val)) := funext fun j => congrArg va_rf (hg j.val j.isLt)
    rw [this]
  · rw [va_up_ne _ _ hba] at hb
    exact h b y (by rw [va_up_ne _ _ hba]; exact hb)
def sdset (side : Int32) (x : aS) (o : Option Nat) : aS := if side &&& 1 = 0 then (x.1, x.2.1, o, x.2.2.2.1, x.2.2.2.2.1, x.2.2.2.2.2) else (x.1, x.2.1, x.2.2.1, o, x.2.2.2.2.1, x.2.2.2.2.2)
def lmp (b : Int32) : Int32 := if b = 0 then 0 else if b = 1 then 1 else 2
def spLight (x : aS) (b k : Int32) : (Int32 × Int32) × aS := if x.1 = false then ((1, 0), x) else ((0, b), (x.1, x.2.1, x.2.2.1, x.2.2.2.1, lmp b, if lmp b = 2 then k else 0))
def spShine (x : aS) (b : Int32) : (Int32 × Int32) × aS := if x.2.2.2.2.1 = 0 then ((1, 0), x) else if x.2.2.2.2.1 = 1 then ((0, 3 * b), x) else if 0 < x.2.2.2.2.2 then ((0, b), (x.1, x.2.1, x.2.2.1, x.2.2.2.1, x.2.2.2.2.1, x.2.2.2.2.2 - 1)) else ((0, 0), x)
def oSp (W : Nat → aWh) (o : Option Nat) : Int32 := match o with
  | none => 0
  | some q => (W q).1
def oTu (W : Nat → aWh) (o : Option Nat) : Int32 := match o with
  | none => 0
  | some q => (W q).2.2
def spTell (W : Nat → aWh) (x : aS) (k : Int32) : Int32 := if k = 0 then bz x.1 else if k = 1 then x.2.1 else if k = 2 then oSp W x.2.2.1 else if k = 3 then oSp W x.2.2.2.1 else if k = 4 then oTu W x.2.2.1 else if k = 5 then oTu W x.2.2.2.1 else if k = 7 then (if x.2.2.2.2.1 = 1 then -1 else x.2.2.2.2.2) else -2147483648
theorem fill_step (f : Nat → Int32) (i : Nat) (x : Int32) : upd (fun j => if j < i then x else f j) i x = fun j => if j < i + 1 then x else f j := by
  funext j
  unfold upd
  by_cases h : j = i
  · subst h; simp
  · by_cases h2 : j < i
    · simp [h, h2, Nat.lt_succ_of_lt h2]
    · have : ¬ j < i + 1 := by omega
      simp [h, h2, this]
theorem none_step (f : Nat → Option Nat) (i : Nat) : va_up (fun j => if j < i then none else f j) i none = fun j => if j < i + 1 then none else f j := by
  funext j
  unfold va_up
  by_cases h : j = i
  · subst h; simp
  · by_cases h2 : j < i
    · simp [h, h2, Nat.lt_succ_of_lt h2]
    · have : ¬ j < i + 1 := by omega
      simp [h, h2, this]
/-- does a wheel hang among the first n places -/
def hldN (o : Option Nat) (f : Nat → Option Nat) : Nat → Bool
  | 0 => false
  | n + 1 => hldN o f n || (o.isSome && f n == o)
theorem g_ix {i j : Int32} (hi : wi i 12 = true) (hj : wi j 12 = true) : vp_in (i * 12 + j) 144 ∧ ix (i * 12 + j) = 12 * ix i + ix j := by
  obtain ⟨a, ha, rfl⟩ := vp_in_of (wi_in hi (N := 12) (by decide)) (by decide)
  obtain ⟨b, hb, rfl⟩ := vp_in_of (wi_in hj (N := 12) (by decide)) (by decide)
  have e : nI a * 12 + nI b = nI (12 * a + b) := by
    rw [show (12 : Int32) = nI 12 from rfl, pk_mul, nI_add, Nat.mul_comm]
  rw [e]
  refine ⟨vp_in_nI (by omega) (by decide), ?_⟩
  show (nI (12 * a + b)).toNatClampNeg = 12 * (nI a).toNatClampNeg + (nI b).toNatClampNeg
  rw [nI_clamp (by omega), nI_clamp (by omega), nI_clamp (by omega)]
theorem wi_le {i n k : Int32} (h : wi i n = true) (hn : n ≤ k) : wi i k = true := by
  refine wi_t (wi_1 h) ?_
  have h2 := Int32.lt_iff_toInt_lt.mp (wi_2 h)
  have h3 := Int32.le_iff_toInt_le.mp hn
  exact Int32.lt_iff_toInt_lt.mpr (by omega)
theorem fw_astqQ {p : Program} {l : Launch} {e : Env} {R : Room} {s : State} {m : MethodId} {args : Array Value} {below : List Frame} {meth : Method} {c : Code} {H : Heap} {locs : List Loc} {cells slots : Nat} {Q : State → Prop} {cc : ByteArray} {nL : Nat} {ret : Option FieldType} {own : String} {BS NW : List Cond} {D : va_G} {cl : List vw_C} {ty : List (ClassId × FieldType)} {A : Nat → Prop} {pc : Nat} {ls : Array Slot} {rest : List Value} {w : fW} {a : Nat} (X : gX p s m args meth c cc nL ret own BS NW D cl ty A) (hF : fw_P D cl A w H) (hS : va_S A s.heap H locs) {cA : ClassId} {r : vw_C} {n ci : Nat} {o : Option Nat} {f : Nat → Option Nat} (he : w a = some (.inl (cA, n, .inr (.inr (.inr (.inr f)))))) (t0 : Nat) (ht : ty[t0]? = some (cA, .object r.1)) (hv : ∀ q, o = some q → ∃ vs, w q = some (.inr (ci, vs))) (hc : cl[ci]? = some r) {i : Int32} (hin : vp_in i n) (hdg : decode cc pc = .ok (.aastore, 1))
    (kk : ∀ (H1 : Heap) (locs1 : List Loc), fw_P D cl A (va_up w a (some (.inl (cA, n, .inr (.inr (.inr (.inr (va_up f i.toNatClampNeg o)))))))) H1 → va_S A s.heap H1 locs1 → W p l e R s m args below meth c H1 locs1 cells slots Q (F0 m (pc + 1) ls rest)) : W p l e R s m args below meth c H locs cells slots Q (F0 m pc ls (va_rf o :: .int i :: .ref a :: rest)) := by
  cases o with
  | none => exact fw_astqN X hF hS he t0 ht hin hdg kk
  | some q =>
    obtain ⟨vs, hvs⟩ := hv q rfl
    exact fw_astq X hF hS he t0 ht hvs hc hin hdg kk
theorem i_as (n : Int32) : n + 1 - 1 = n := by simp
theorem i_ior (a b : Bool) : bz a ||| bz b = bz (a || b) := by cases a <;> cases b <;> rfl
