/-! THE CLAIM OUT OF ONE WALK OF THE LAW'S BODY. Your part is whole_start (and what it stands on); all else here is the same for every law, but numbers. -/
def R_law : String := "CycleShopLaw"
def lw_P (b : Addr) (xs : List Int32) (args : Array Value) (s : State) : Prop := args = #[.ref b] ∧ s.IntsAt b xs ∧ xs.length ≤ 3584 ∧ (Jvm.Cond.and given_1 narrow_1).before args s = true
def lw_Q (_ : Array Value) (s : State) (o : Outcome) (t : State) : Prop := o = .returned (some (.int 1)) ∧ Framed s o t [] 600000 7302250
def lw_Z (below : List Frame) (a : Array Value) (s : State) : State → Prop := fun t => ∃ o, t.status = .running ∧ Ended t below o ∧ lw_Q a s o t
/-- the law's own end, with 1 on the stack, nothing written that was there before, its room as the claim has it -/
theorem lw_ret {p : Program} {l : Launch} {e : Env} {s : State} {m : MethodId} {below : List Frame} {meth : Method} {c : Code} {b : Nat} (hx : p.tables.exec = Jvm.exec) (hb : c.code = code) (hr : meth.sig.returnType = ret) (hlocks : meth.locks = false) {pc : Nat} {H : Heap} {ls : Array Slot} (hdg : decode code pc = .ok (.ireturn, 1)) : W p l e room_1 s m #[Value.ref b] below meth c H [] 600000 7302250 (lw_Z below #[Value.ref b] s) (F0 m pc ls [.int 1]) := by
  intro T hT X
  obtain ⟨fs, hret, hrun, hended, hW, hframe⟩ := X.leave (v := some (.int 1)) (hlocks := hlocks) (fun h => by rw [hr] at h; cases h)
  have hmeth' : T.vm.method? m = some meth := X.method'
  refine ⟨T.setFrames fs, ?_, .returned (some (.int 1)), hrun, hended, rfl, ⟨_, rfl⟩, hW, hframe⟩
  jvm_step X.here [X.here.top, hx, hb, hdg, hmeth', hr, ret, narrow_b1]
  (try refine ⟨rfl, ?_⟩); (try refine ⟨rfl, ?_⟩)
  first | (intro acts; rw [hret _ acts rfl rfl rfl]) | rw [hret _ _ rfl rfl rfl]
  exact Steps.refl _
/-- what holds at the law's entry: the machine, the code, the tables' words (any of lw_tbl by 'hts w (by decide +kernel)'), the script of L ints xs at the cell b, what the Statement gives of the start (any of its parts by flat_of_before) -/
def lw_At (p : Program) (s : State) (m : MethodId) (meth : Method) (c : Code) (b L : Nat) (xs : Nat → Int32) : Prop :=
  p.tables.exec = Jvm.exec ∧ c.code = code ∧ meth.sig.returnType = ret ∧ c.maxLocals = 4 ∧ s.vm.findClass R_law = some m.cls ∧ (∀ w ∈ lw_tbl, w.before #[Value.ref b] s = true) ∧ va_X b L xs s s.heap ∧ b < s.heap.size ∧ meth.locks = false ∧ (Jvm.Cond.and given_1 narrow_1).before #[Value.ref b] s = true

/-! what a run keeps -/
theorem Inv.step {T : Sg} (hI : Inv T) (j k a b d sd : Int32) : Inv (spStep j k a b d sd T).2 := by
  unfold spStep
  split
  · rename_i h
    split
    · exact hI
    · rename_i h2
      have hj : ix j < 4 := wi_lt h.1 (N := 4) (by decide)
      have h0 := (hI.2.2.2.2.1 _ hj).1
      have h16 := i_nle.mp h2
      have hl : ix (tJo T (ix j)).1 < 16 := wi_lt (wi_t h0 h16) (N := 16) (by decide)
      have e1 : (tJo T (ix j)).1 + 1 = nI (ix (tJo T (ix j)).1 + 1) := by rw [← nI_1, ← nI_ix h0]
      refine hI.jo ?_ ?_ (fun k9 hk => ?_)
      · show 0 ≤ (tJo T (ix j)).1 + 1
        rw [e1]; exact nI_le (a := 0) (by omega) (by omega)
      · show (tJo T (ix j)).1 + 1 ≤ 16
        rw [e1]; exact nI_le (b := 16) (by omega) (by omega)
      · have hk : k9 < ix ((tJo T (ix j)).1 + 1) := hk
        rw [ix_s h0 h16] at hk
        show spI (va_up (tJo T (ix j)).2 (ix (tJo T (ix j)).1) (k, a, b, d, sd) k9)
        by_cases e : k9 = ix (tJo T (ix j)).1
        · subst e
          rw [va_up_self]
          exact ⟨h.2.2, h.2.1⟩
        · rw [va_up_ne _ _ e]
          exact (hI.2.2.2.2.1 _ hj).2.2 k9 (by omega)
  · exact hI
theorem st_re (j k a b d sd : Int32) (T : Sg) : tRe (spStep j k a b d sd T).2 = tRe T := by
  unfold spStep
  split
  · split
    · rfl
    · rfl
  · rfl
theorem Inv.clr {T : Sg} (hI : Inv T) (i : Nat) (f : Nat → aSp) : Inv (setJo T i (0, f)) := hI.jo (show (0 : Int32) ≤ 0 by decide) (show (0 : Int32) ≤ 16 by decide) (fun k hk => absurd hk (Nat.not_lt_zero _))
theorem Inv.run {j : Nat} {way : Int32} (hj : j < 4) : ∀ (n i : Nat) (U T' : Sg), Inv U → i + n ≤ ix (tJo U j).1 → RunR j way n i U T' → Inv T' := by
  intro n
  induction n with
  | zero =>
    intro i U T' hI _ h
    have h : T' = U := h
    rw [h]; exact hI
  | succ n ih =>
    intro i U T' hI hi h
    obtain ⟨q, hq, h⟩ := h
    have hI1 := hI.gos (q := q) (n := nI i) ((hI.2.2.2.2.1 j hj).2.2 i (by omega))
    have hJ1 := go_jo q ((tJo U j).2 i) (nI i) U
    split at h
    · exact ih (i + 1) _ T' hI1 (by rw [hJ1]; omega) h
    · obtain ⟨q2, hq2, h⟩ := h
      have hI2 := hI1.ins (q := q2) (x := (tJo U j).2 i) hj
      have hJ2 := in_jo q2 j ((tJo U j).2 i) (spGo q ((tJo U j).2 i) (nI i) U).2
      split at h
      · exact ih (i + 1) _ T' hI2 (by rw [hJ2, hJ1]; omega) h
      · rw [h]; exact hI2
/-! two worlds, apart -/
def dj (w1 w2 : fW) : Prop := ∀ q, w1 q = none ∨ w2 q = none
theorem dj.sy {w1 w2 : fW} (h : dj w1 w2) : dj w2 w1 := fun q => (h q).symm
theorem fw_P.sub {D : va_G} {cl : List vw_C} {A : Nat → Prop} {w w' : fW} {H : Heap} (h : fw_P D cl A w H) (hs : ∀ a e, w' a = some e → w a = some e) : fw_P D cl A w' H := fun a e x => h a e (hs a e x)
theorem fw_ap {D : va_G} {cl : List vw_C} {A : Nat → Prop} {w1 w2 u1 : fW} {H H1 : Heap} (hF2 : fw_P D cl A w2 H) (h : dj w1 w2) (hk : ∀ q : Nat, q < H.size → w1 q = none → H1[q]? = H[q]?) (hd : ∀ q : Nat, u1 q ≠ none → w1 q ≠ none ∨ H.size ≤ q) : fw_P D cl A w2 H1 ∧ dj u1 w2 := by
  refine ⟨hF2.kept (fun q h1 h2 => hk q h1 ((h q).resolve_right h2)), fun q => ?_⟩
  cases hx : u1 q with
  | none => exact Or.inl rfl
  | some x =>
    refine Or.inr ?_
    rcases hd q (by rw [hx]; exact fun z => by cases z) with z | z
    · exact (h q).resolve_left z
    · exact hF2.fresh z
def LI (D : va_G) (cs : Nat → ClassId) (ad am : Nat → Nat) (A : Nat → Prop) (h0 : Heap) (T : Sg) (H : Heap) (locs : List Loc) : Prop := ∃ (jf : Nat → Nat → Option Nat) (w1 w2 : fW), SW cs ad T jf w1 ∧ Inv T ∧ Sm cs am T w2 ∧ fw_P D cls10 A w1 H ∧ fw_P D cls10 A w2 H ∧ dj w1 w2 ∧ va_S A h0 H locs
theorem law_in {i k L : Nat} (h : i + k < L) (hL : L ≤ 3584) : vp_in (nI i + nI k) L := by rw [nI_add]; exact vp_in_nI h (by omega)
theorem law_cmp {L x : Nat} (hL : L ≤ 3584) (hx : x ≤ 3584) (h : ¬ (Int32.ofNat L - 7) < nI x) : x + 7 ≤ L := by
  have h1 := Int32.le_iff_toInt_le.mp (i_nlt.mp h)
  have e0 : (Int32.ofNat L).toInt = L := nI_toInt (n := L) (by omega)
  have e3 : (7 : Int32).toInt = 7 := rfl
  rw [nI_toInt (by omega), Int32.toInt_sub, e0, e3] at h1
  have : ((L : Int) - 7).bmod (2 ^ 32) = (L : Int) - 7 := Int.bmod_eq_of_le (by omega) (by omega)
  have h2 : (x : Int) ≤ ((L : Int) - 7).bmod (2 ^ 32) := h1
  omega
theorem law_arrP {args : Array Value} {s : State} {t : FieldType} (ht : ∀ C, t ≠ .object C) (h : (Cond.arrayClass t).before args s = true) : ∃ cA, ArrOfT s cA t ∧ va_RA s cA t := by
  obtain ⟨c, k, comp, h1, h2, h3⟩ := Cond.arrayClass_spec h
  refine ⟨c, fun n z => ⟨(fun k h => by cases h), k, h2, comp, h3⟩, ?_⟩
  cases t <;> first | exact h1 | exact absurd rfl (ht _)
theorem law_arrO {args : Array Value} {s : State} {C : String} (h : (Cond.arrayOver (.object C)).before args s = true) : ∃ cA, ArrOfT s cA (.object C) ∧ va_RA s cA (.object C) := by
  obtain ⟨comp, c, k, h1, h2, h3, h4, h5⟩ := Cond.arrayOver_spec h
  exact ⟨c, fun n z => ⟨(fun k h => by cases h), k, h3, comp, h4⟩, ⟨k, comp, h3, h4, h1, h5⟩⟩
theorem nw_tbl {x : Cond} (h : x ∈ nw_B) : x ∈ lw_tbl := (List.mem_filter.mp h).1
theorem law_nw {args : Array Value} {s : State} (hts : ∀ w ∈ lw_tbl, w.before args s = true) : gN nw_B s := by
  intro x hx
  have h1 := (List.mem_filter.mp hx).2
  have h2 := hts x (nw_tbl hx)
  cases x with
  | fieldLinkNest => exact va_Nw.of rfl h2
  | methodLinkNest => exact va_Nw.of rfl h2
  | arrayOver t => cases t <;> first | (simp [gnest] at h1; done) | exact va_AO.of h2
  | _ => simp [gnest] at h1
theorem law_K {args : Array Value} {s : State} (hts : ∀ w ∈ lw_tbl, w.before args s = true) : ∃ (D : va_G) (cs : Nat → ClassId), va_K D cls10 (tyl cs) s := by
  obtain ⟨c0, i0, k0⟩ := u_known (C := RX0) (T := TX0) (N := 2) (n := 2) hts (fun x h => bs_tbl (bs_X0 x h)) (hts _ (bs_tbl wm_114))
  obtain ⟨c1, i1, k1⟩ := u_known (C := RX1) (T := TX1) (N := 3) (n := 3) hts (fun x h => bs_tbl (bs_X1 x h)) (hts _ (bs_tbl wm_145))
  obtain ⟨c2, i2, k2⟩ := u_known (C := RX2) (T := TX2) (N := 2) (n := 2) hts (fun x h => bs_tbl (bs_X2 x h)) (hts _ (bs_tbl wm_161))
  obtain ⟨c3, i3, k3⟩ := u_known (C := RX3) (T := TX3) (N := 3) (n := 3) hts (fun x h => bs_tbl (bs_X3 x h)) (hts _ (bs_tbl wm_127))
  obtain ⟨c4, i4, k4⟩ := u_known (C := RX4) (T := TX4) (N := 6) (n := 6) hts (fun x h => bs_tbl (bs_X4 x h)) (hts _ (bs_tbl wm_55))
  obtain ⟨c5, i5, k5⟩ := u_known (C := RX5) (T := TX5) (N := 6) (n := 6) hts (fun x h => bs_tbl (bs_X5 x h)) (hts _ (bs_tbl wm_86))
  obtain ⟨c6, i6, k6⟩ := u_known (C := RX6) (T := TX6) (N := 5) (n := 5) hts (fun x h => bs_tbl (bs_X6 x h)) (hts _ (bs_tbl wm_351))
  obtain ⟨c7, i7, k7⟩ := u_known (C := RX7) (T := TX7) (N := 3) (n := 3) hts (fun x h => bs_tbl (bs_X7 x h)) (hts _ (bs_tbl wm_237))
  obtain ⟨c8, i8, k8⟩ := u_known (C := RX8) (T := TX8) (N := 8) (n := 8) hts (fun x h => bs_tbl (bs_X8 x h)) (hts _ (bs_tbl wm_37))
  obtain ⟨c9, i9, k9⟩ := u_known (C := RX9) (T := TX9) (N := 28) (n := 28) hts (fun x h => bs_tbl (bs_X9 x h)) (hts _ (bs_tbl wm_474))
  obtain ⟨a0, p0⟩ := law_arrP (t := .int) (fun C h => by cases h) (hts _ (bs_tbl wm_85))
  obtain ⟨a1, p1⟩ := law_arrP (t := .boolean) (fun C h => by cases h) (hts _ (bs_tbl wm_564))
  obtain ⟨a2, p2⟩ := law_arrO (hts _ (nw_tbl nm_45))
  obtain ⟨a3, p3⟩ := law_arrO (hts _ (nw_tbl nm_47))
  obtain ⟨a4, p4⟩ := law_arrO (hts _ (nw_tbl nm_49))
  obtain ⟨a5, p5⟩ := law_arrO (hts _ (nw_tbl nm_51))
  obtain ⟨a6, p6⟩ := law_arrO (hts _ (nw_tbl nm_53))
  obtain ⟨a7, p7⟩ := law_arrO (hts _ (nw_tbl nm_133))
  obtain ⟨a8, p8⟩ := law_arrO (hts _ (nw_tbl nm_167))
  refine ⟨(fun k => ([c0, c1, c2, c3, c4, c5, c6, c7, c8, c9] : List ClassId).getD k c0, fun k => ([i0, i1, i2, i3, i4, i5, i6, i7, i8, i9] : List (Nat → Nat)).getD k i0), fun k => ([a0, a1, a2, a3, a4, a5, a6, a7, a8] : List ClassId).getD k a0, fun k q hq => ?_, fun k q hq => ?_⟩
  · match k, hq with
    | 0, hq => cases hq; exact k0
    | 1, hq => cases hq; exact k1
    | 2, hq => cases hq; exact k2
    | 3, hq => cases hq; exact k3
    | 4, hq => cases hq; exact k4
    | 5, hq => cases hq; exact k5
    | 6, hq => cases hq; exact k6
    | 7, hq => cases hq; exact k7
    | 8, hq => cases hq; exact k8
    | 9, hq => cases hq; exact k9
    | k + 10, hq => simp [cls10] at hq
  · match k, hq with
    | 0, hq => cases hq; exact p0
    | 1, hq => cases hq; exact p1
    | 2, hq => cases hq; exact p2
    | 3, hq => cases hq; exact p3
    | 4, hq => cases hq; exact p4
    | 5, hq => cases hq; exact p5
    | 6, hq => cases hq; exact p6
    | 7, hq => cases hq; exact p7
    | 8, hq => cases hq; exact p8
    | k + 9, hq => simp [tyl] at hq
