/-! small rows for the walks: booleans, references that may be null, switches -/
def bz (b : Bool) : Int32 := if b then 1 else 0
theorem gx_nbz (b : Bool) : narrow .boolean (.int (bz b)) = .int (bz b) := by cases b <;> rfl
theorem gx_fbz (b : Bool) : fits .boolean (.int (bz b)) = true := by cases b <;> rfl
theorem gx_vbz (b : Bool) : vp_nar .boolean (bz b) = bz b := by cases b <;> rfl
theorem gx_cat (o : Option Nat) : (va_rf o).category = 1 := by cases o <;> rfl
theorem gx_fits (C : String) (o : Option Nat) : fits (.object C) (va_rf o) = true := by cases o <;> rfl
theorem gx_narr (C : String) (o : Option Nat) : narrow (.object C) (va_rf o) = va_rf o := by cases o <;> rfl
theorem gx_ne {w : fW} {a q : Nat} {x : va_E} (h : w a = some x) (n : w q = none) : a ≠ q := fun e => by rw [e, n] at h; cases h
theorem gx_upid {w : fW} {a : Nat} {x : va_E} (h : w a = some x) : va_up w a (some x) = w := by
  funext b
  by_cases hb : b = a
  · rw [hb, va_up_self, h]
  · rw [va_up_ne _ _ hb]
theorem gx_bz0 {b : Bool} (h : bz b = 0) : b = false := by cases b with | false => rfl | true => exact absurd h (by decide)
theorem gx_bz1 {b : Bool} (h : ¬ bz b = 0) : b = true := by cases b with | true => rfl | false => exact absurd rfl h
section GXR
variable {p : Program} {l : Launch} {e : Env} {R : Room} {s : State} {m : MethodId} {args : Array Value} {below : List Frame} {meth : Method} {c : Code} {H : Heap} {locs : List Loc} {cells slots : Nat} {Q : State → Prop}
variable {cc : ByteArray} {pc : Nat} {ls : Array Slot} {rest : List Value}
theorem gx_ifeq (hx : p.tables.exec = Jvm.exec) (hb : c.code = cc) {b : Bool} {off : Int} {tgt : Nat} (hdg : decode cc pc = .ok (.ifCond .eq off, 3)) (ht : (pc : Int) + off = (tgt : Int)) (kt : b = false → W p l e R s m args below meth c H locs cells slots Q (F0 m tgt ls rest)) (kf : b = true → W p l e R s m args below meth c H locs cells slots Q (F0 m (pc + 3) ls rest)) : W p l e R s m args below meth c H locs cells slots Q (F0 m pc ls (.int (bz b) :: rest)) :=
  lv_if_eq hx hb hdg ht (fun h => kt (gx_bz0 h)) (fun h => kf (gx_bz1 h))
theorem gx_ifne (hx : p.tables.exec = Jvm.exec) (hb : c.code = cc) {b : Bool} {off : Int} {tgt : Nat} (hdg : decode cc pc = .ok (.ifCond .ne off, 3)) (ht : (pc : Int) + off = (tgt : Int)) (kt : b = true → W p l e R s m args below meth c H locs cells slots Q (F0 m tgt ls rest)) (kf : b = false → W p l e R s m args below meth c H locs cells slots Q (F0 m (pc + 3) ls rest)) : W p l e R s m args below meth c H locs cells slots Q (F0 m pc ls (.int (bz b) :: rest)) :=
  lv_if_ne hx hb hdg ht (fun h => kt (gx_bz1 h)) (fun h => kf (gx_bz0 h))
theorem gx_aload_nq (hx : p.tables.exec = Jvm.exec) (hb : c.code = cc) {k : Fin 4} {i : Nat} {o : Option Nat} (hdg : decode cc pc = .ok (.aload_n k, 1)) (hi : (k : Nat) = i) (hl : ls[i]? = some (.val (va_rf o))) (kk : W p l e R s m args below meth c H locs cells slots Q (F0 m (pc + 1) ls (va_rf o :: rest))) : W p l e R s m args below meth c H locs cells slots Q (F0 m pc ls rest) := by
  cases o with
  | none => exact lv_aload_nN hx hb hdg hi hl kk
  | some x => exact lv_aload_n hx hb hdg hi hl kk
theorem gx_aloadq (hx : p.tables.exec = Jvm.exec) (hb : c.code = cc) {i : Nat} {o : Option Nat} (hdg : decode cc pc = .ok (.aload i, 2)) (hl : ls[i]? = some (.val (va_rf o))) (kk : W p l e R s m args below meth c H locs cells slots Q (F0 m (pc + 2) ls (va_rf o :: rest))) : W p l e R s m args below meth c H locs cells slots Q (F0 m pc ls rest) := by
  cases o with
  | none => exact lv_aloadN hx hb hdg hl kk
  | some x => exact lv_aload hx hb hdg hl kk
theorem gx_astore_nq (hx : p.tables.exec = Jvm.exec) (hb : c.code = cc) {k : Fin 4} {i nL : Nat} {o : Option Nat} {lv lv' : List (Nat × Value)} (hdg : decode cc pc = .ok (.astore_n k, 1)) (hi : (k : Nat) = i) (h : lv_has ls nL lv) (hn : i < nL) (hl : (i, va_rf o) :: lv.filter (fun q => !(q.1 == i) && !(q.1 + 1 == i && q.2.category == 2)) = lv') (kk : ∀ ls' : Array Slot, lv_has ls' nL lv' → W p l e R s m args below meth c H locs cells slots Q (F0 m (pc + 1) ls' rest)) : W p l e R s m args below meth c H locs cells slots Q (F0 m pc ls (va_rf o :: rest)) := by
  cases o with
  | none => exact lv_astore_nN hx hb hdg hi h hn hl kk
  | some x => exact lv_astore_n hx hb hdg hi h hn hl kk
theorem gx_astoreq (hx : p.tables.exec = Jvm.exec) (hb : c.code = cc) {i nL : Nat} {o : Option Nat} {lv lv' : List (Nat × Value)} (hdg : decode cc pc = .ok (.astore i, 2)) (h : lv_has ls nL lv) (hn : i < nL) (hl : (i, va_rf o) :: lv.filter (fun q => !(q.1 == i) && !(q.1 + 1 == i && q.2.category == 2)) = lv') (kk : ∀ ls' : Array Slot, lv_has ls' nL lv' → W p l e R s m args below meth c H locs cells slots Q (F0 m (pc + 2) ls' rest)) : W p l e R s m args below meth c H locs cells slots Q (F0 m pc ls (va_rf o :: rest)) := by
  cases o with
  | none => exact lv_astoreN hx hb hdg h hn hl kk
  | some x => exact lv_astore hx hb hdg h hn hl kk
theorem gx_ifnull (hx : p.tables.exec = Jvm.exec) (hb : c.code = cc) {o : Option Nat} {off : Int} {tgt : Nat} (hdg : decode cc pc = .ok (.ifnull off, 3)) (ht : (pc : Int) + off = (tgt : Int)) (kn : o = none → W p l e R s m args below meth c H locs cells slots Q (F0 m tgt ls rest)) (ks : ∀ x, o = some x → W p l e R s m args below meth c H locs cells slots Q (F0 m (pc + 3) ls rest)) : W p l e R s m args below meth c H locs cells slots Q (F0 m pc ls (va_rf o :: rest)) := by
  cases o with
  | none => exact lv_ifnullN hx hb hdg ht (kn rfl)
  | some x => exact lv_ifnull hx hb hdg (ks x rfl)
theorem gx_ifnonnull (hx : p.tables.exec = Jvm.exec) (hb : c.code = cc) {o : Option Nat} {off : Int} {tgt : Nat} (hdg : decode cc pc = .ok (.ifnonnull off, 3)) (ht : (pc : Int) + off = (tgt : Int)) (kn : o = none → W p l e R s m args below meth c H locs cells slots Q (F0 m (pc + 3) ls rest)) (ks : ∀ x, o = some x → W p l e R s m args below meth c H locs cells slots Q (F0 m tgt ls rest)) : W p l e R s m args below meth c H locs cells slots Q (F0 m pc ls (va_rf o :: rest)) := by
  cases o with
  | none => exact lv_ifnonnullN hx hb hdg (kn rfl)
  | some x => exact lv_ifnonnull hx hb hdg ht (ks x rfl)
end GXR
theorem gx_i (x k : Int32) {a : Int} (h : k.toInt = a) : x = k ↔ x.toInt = a := by rw [← h]; exact Int32.toInt_inj.symm
theorem gx_sw3 (x : Int32) : x = 0 ∨ x = 1 ∨ x = 2 ∨ (x.toInt < 0 ∨ 2 < x.toInt) := by
  rw [gx_i x 0 (a := 0) rfl, gx_i x 1 (a := 1) rfl, gx_i x 2 (a := 2) rfl]; omega
theorem gx_sw5 (x : Int32) : x = 0 ∨ x = 1 ∨ x = 2 ∨ x = 3 ∨ x = 4 ∨ (x.toInt < 0 ∨ 4 < x.toInt) := by
  rw [gx_i x 0 (a := 0) rfl, gx_i x 1 (a := 1) rfl, gx_i x 2 (a := 2) rfl, gx_i x 3 (a := 3) rfl, gx_i x 4 (a := 4) rfl]; omega
theorem gx_sw7 (x : Int32) : x = 0 ∨ x = 1 ∨ x = 2 ∨ x = 3 ∨ x = 4 ∨ x = 5 ∨ x = 6 ∨ (x.toInt < 0 ∨ 6 < x.toInt) := by
  rw [gx_i x 0 (a := 0) rfl, gx_i x 1 (a := 1) rfl, gx_i x 2 (a := 2) rfl, gx_i x 3 (a := 3) rfl, gx_i x 4 (a := 4) rfl, gx_i x 5 (a := 5) rfl, gx_i x 6 (a := 6) rfl]; omega
theorem gx_sw8 (x : Int32) : x = 0 ∨ x = 1 ∨ x = 2 ∨ x = 3 ∨ x = 4 ∨ x = 5 ∨ x = 6 ∨ x = 7 ∨ (x.toInt < 0 ∨ 7 < x.toInt) := by
  rw [gx_i x 0 (a := 0) rfl, gx_i x 1 (a := 1) rfl, gx_i x 2 (a := 2) rfl, gx_i x 3 (a := 3) rfl, gx_i x 4 (a := 4) rfl, gx_i x 5 (a := 5) rfl, gx_i x 6 (a := 6) rfl, gx_i x 7 (a := 7) rfl]; omega
theorem gx_sw11 (x : Int32) : x = 0 ∨ x = 1 ∨ x = 2 ∨ x = 3 ∨ x = 4 ∨ x = 5 ∨ x = 6 ∨ x = 7 ∨ x = 8 ∨ x = 9 ∨ x = 10 ∨ (x.toInt < 0 ∨ 10 < x.toInt) := by
  rw [gx_i x 0 (a := 0) rfl, gx_i x 1 (a := 1) rfl, gx_i x 2 (a := 2) rfl, gx_i x 3 (a := 3) rfl, gx_i x 4 (a := 4) rfl, gx_i x 5 (a := 5) rfl, gx_i x 6 (a := 6) rfl, gx_i x 7 (a := 7) rfl, gx_i x 8 (a := 8) rfl, gx_i x 9 (a := 9) rfl, gx_i x 10 (a := 10) rfl]; omega
theorem gx_sw16 (x : Int32) : x = 0 ∨ x = 1 ∨ x = 2 ∨ x = 3 ∨ x = 4 ∨ x = 5 ∨ x = 6 ∨ x = 7 ∨ x = 8 ∨ x = 9 ∨ x = 10 ∨ x = 11 ∨ x = 12 ∨ x = 13 ∨ x = 14 ∨ x = 15 ∨ (x.toInt < 0 ∨ 15 < x.toInt) := by
  rw [gx_i x 0 (a := 0) rfl, gx_i x 1 (a := 1) rfl, gx_i x 2 (a := 2) rfl, gx_i x 3 (a := 3) rfl, gx_i x 4 (a := 4) rfl, gx_i x 5 (a := 5) rfl, gx_i x 6 (a := 6) rfl, gx_i x 7 (a := 7) rfl, gx_i x 8 (a := 8) rfl, gx_i x 9 (a := 9) rfl, gx_i x 10 (a := 10) rfl, gx_i x 11 (a := 11) rfl, gx_i x 12 (a := 12) rfl, gx_i x 13 (a := 13) rfl, gx_i x 14 (a := 14) rfl, gx_i x 15 (a := 15) rfl]; omega
theorem gx_sw17 (x : Int32) : x = 0 ∨ x = 1 ∨ x = 2 ∨ x = 3 ∨ x = 4 ∨ x = 5 ∨ x = 6 ∨ x = 7 ∨ x = 8 ∨ x = 9 ∨ x = 10 ∨ x = 11 ∨ x = 12 ∨ x = 13 ∨ x = 14 ∨ x = 15 ∨ x = 16 ∨ (x.toInt < 0 ∨ 16 < x.toInt) := by
  rw [gx_i x 0 (a := 0) rfl, gx_i x 1 (a := 1) rfl, gx_i x 2 (a := 2) rfl, gx_i x 3 (a := 3) rfl, gx_i x 4 (a := 4) rfl, gx_i x 5 (a := 5) rfl, gx_i x 6 (a := 6) rfl, gx_i x 7 (a := 7) rfl, gx_i x 8 (a := 8) rfl, gx_i x 9 (a := 9) rfl, gx_i x 10 (a := 10) rfl, gx_i x 11 (a := 11) rfl, gx_i x 12 (a := 12) rfl, gx_i x 13 (a := 13) rfl, gx_i x 14 (a := 14) rfl, gx_i x 15 (a := 15) rfl, gx_i x 16 (a := 16) rfl]; omega
/-! the words of the spec -/
def wi (i n : Int32) : Bool := decide (0 ≤ i) && decide (i < n)
theorem wi_t {i n : Int32} (h1 : 0 ≤ i) (h2 : i < n) : wi i n = true := by simp [wi, h1, h2]
theorem wi_1 {i n : Int32} (h : wi i n = true) : 0 ≤ i := by simp [wi] at h; exact h.1
theorem wi_2 {i n : Int32} (h : wi i n = true) : i < n := by simp [wi] at h; exact h.2
abbrev ix (i : Int32) : Nat := i.toNatClampNeg
theorem wi_in {i n : Int32} {N : Nat} (h : wi i n = true) (hn : n.toInt ≤ N) : vp_in i N := by
  have h1 := Int32.le_iff_toInt_le.mp (wi_1 h)
  have h2 := Int32.lt_iff_toInt_lt.mp (wi_2 h)
  have h3 : (0 : Int32).toInt = 0 := rfl
  exact vp_in_iff.mpr ⟨by omega, by omega⟩
theorem ix_int {i : Int32} (h : 0 ≤ i) : (ix i : Int) = i.toInt := by
  have h1 := Int32.le_iff_toInt_le.mp h
  have h3 : (0 : Int32).toInt = 0 := rfl
  show (i.toInt.toNat : Int) = i.toInt
  omega
theorem wi_lt {i n : Int32} {N : Nat} (h : wi i n = true) (hn : n.toInt ≤ N) : ix i < N := by
  have h1 := ix_int (wi_1 h)
  have h2 := Int32.lt_iff_toInt_lt.mp (wi_2 h)
  omega
theorem ix_inj {i j : Int32} (hi : 0 ≤ i) (hj : 0 ≤ j) (h : ix i = ix j) : i = j := by
  have h1 := ix_int hi
  have h2 := ix_int hj
  exact Int32.toInt_inj.mp (by omega)
def fl (r : Int32) : Int64 := (-9223372036854775808) + r.toInt64
