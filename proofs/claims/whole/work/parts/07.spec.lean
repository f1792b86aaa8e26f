theorem wi_f1 {i n : Int32} (h : i < 0) : wi i n = false := by
  have h1 := Int32.lt_iff_toInt_lt.mp h
  have : ¬ 0 ≤ i := fun q => by have := Int32.le_iff_toInt_le.mp q; omega
  simp [wi, this]
theorem wi_f2 {i n : Int32} (h : n ≤ i) : wi i n = false := by
  have h1 := Int32.le_iff_toInt_le.mp h
  have : ¬ i < n := fun q => by have := Int32.lt_iff_toInt_lt.mp q; omega
  simp [wi, this]
theorem wi_t2 {i n : Int32} (h1 : ¬ i < 0) (h2 : ¬ n ≤ i) : wi i n = true := by
  have a1 : 0 ≤ i := by
    rw [Int32.le_iff_toInt_le]; rw [Int32.lt_iff_toInt_lt] at h1; omega
  have a2 : i < n := by
    rw [Int32.lt_iff_toInt_lt]; rw [Int32.le_iff_toInt_le] at h2; omega
  exact wi_t a1 a2
theorem i_nlt {x y : Int32} : ¬ x < y ↔ y ≤ x := by rw [Int32.lt_iff_toInt_lt, Int32.le_iff_toInt_le]; omega
theorem i_nle {x y : Int32} : ¬ x ≤ y ↔ y < x := by rw [Int32.lt_iff_toInt_lt, Int32.le_iff_toInt_le]; omega
/-- reason of an outcome, as the class reads it -/
def rsn (o : Int64) : Int32 := if o < (-2147483648) then (o - (-9223372036854775808)).toInt32 else 0
/-- a wheel: spokes, disc, turns -/
abbrev aWh : Type := Int32 × Bool × Int32
abbrev cWh (x : aWh) : va_E := .inr (7, [.int x.1, .int (bz x.2.1), .int x.2.2])
/-- a stand: bike, frame, front, rear, lamp, charge -/
abbrev aS : Type := Bool × Int32 × Option Nat × Option Nat × Int32 × Int32
abbrev cSt (x : aS) : va_E := .inr (5, [.int (bz x.1), .int x.2.1, va_rf x.2.2.1, va_rf x.2.2.2.1, .int x.2.2.2.2.1, .int x.2.2.2.2.2])
def sdw (side : Int32) (fo re : Option Nat) : Option Nat := if side &&& 1 = 0 then fo else re
def whT (x : aWh) : Int32 := (x.2.2 + 1) * x.1 + bz x.2.1
def whL (x : aWh) : Int32 := if x.2.1 then 1000 + x.1 else x.1
def whN (c : Int32) : aWh := if 100 ≤ c then (c - 100, true, 0) else (c, false, 0)
