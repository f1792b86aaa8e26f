/-! MY WORLDS: a world is a function from addresses to cells; a contract speaks of the whole world, so nothing is cut out at a call and nothing is joined behind it. -/
abbrev fW : Type := Nat → Option va_E
def fw_P (D : va_G) (cl : List vw_C) (A : Nat → Prop) (w : fW) (H : Heap) : Prop := ∀ (a : Nat) (e : va_E), w a = some e → va_at D cl (a, e) H ∧ A a
theorem fw_one {D : va_G} {cl : List vw_C} {A : Nat → Prop} {w : fW} {H : Heap} {a : Nat} {x : va_E} (h : fw_P D cl A w H) (e : w a = some x) : va_P D cl [(a, x)] H := by
  intro k q hk
  match k, hk with
  | 0, hk => cases hk; exact (h a x e).1
  | k + 1, hk => simp at hk
theorem fw_P.up {D : va_G} {cl : List vw_C} {A : Nat → Prop} {w : fW} {H H1 : Heap} {a : Nat} {x : va_E} (h : fw_P D cl A w H) (ha : A a) (he : va_at D cl (a, x) H1) (oq : ∀ q : Nat, q ≠ a → H1[q]? = H[q]?) : fw_P D cl A (va_up w a (some x)) H1 := by
  intro b y hb
  by_cases hba : b = a
  · subst hba
    rw [va_up_self] at hb
    cases hb
    exact ⟨he, ha⟩
  · rw [va_up_ne _ _ hba] at hb
    exact ⟨(h b y hb).1.kept (oq b hba), (h b y hb).2⟩
theorem fw_P.lt {D : va_G} {cl : List vw_C} {A : Nat → Prop} {w : fW} {H : Heap} {a : Nat} {x : va_E} (h : fw_P D cl A w H) (e : w a = some x) : a < H.size := (h a x e).1.lt
theorem fw_P.fresh {D : va_G} {cl : List vw_C} {A : Nat → Prop} {w : fW} {H : Heap} {a : Nat} (h : fw_P D cl A w H) (ha : H.size ≤ a) : w a = none := by
  cases hx : w a with
  | none => rfl
  | some x => exact absurd (h.lt hx) (by omega)
theorem fw_P.new {D : va_G} {cl : List vw_C} {A : Nat → Prop} {w : fW} {H H1 : Heap} {x : va_E} (h : fw_P D cl A w H) (ha : A H.size) (he : va_at D cl (H.size, x) H1) (oq : ∀ q : Nat, q < H.size → H1[q]? = H[q]?) : fw_P D cl A (va_up w H.size (some x)) H1 := by
  intro b y hb
  by_cases hba : b = H.size
  · subst hba
    rw [va_up_self] at hb
    cases hb
    exact ⟨he, ha⟩
  · rw [va_up_ne _ _ hba] at hb
    exact ⟨(h b y hb).1.kept (oq b (h.lt hb)), (h b y hb).2⟩
theorem fw_P.kept {D : va_G} {cl : List vw_C} {A : Nat → Prop} {w : fW} {H H1 : Heap} (h : fw_P D cl A w H) (oq : ∀ q : Nat, q < H.size → w q ≠ none → H1[q]? = H[q]?) : fw_P D cl A w H1 := by
  intro b y hb
  exact ⟨(h b y hb).1.kept (oq b (h.lt hb) (by rw [hb]; exact fun q => by cases q)), (h b y hb).2⟩
theorem fw_P.wide {D : va_G} {cl : List vw_C} {A A1 : Nat → Prop} {w : fW} {H : Heap} (h : fw_P D cl A w H) (hA : ∀ q, A q → A1 q) : fw_P D cl A1 w H := fun a e x => ⟨(h a e x).1, hA a (h a e x).2⟩
theorem fw_P.to {D : va_G} {cl : List vw_C} {A : Nat → Prop} {w w' : fW} {H : Heap} (h : fw_P D cl A w H) (hw : w = w') : fw_P D cl A w' H := hw ▸ h
/-- which cells a method may change -/
def gA (w : fW) (sz : Nat) : Nat → Prop := fun q => w q ≠ none ∨ sz ≤ q
def gN (NW : List Cond) (U : State) : Prop := ∀ x ∈ NW, va_Nw x U
def gnest : Cond → Bool
  | .fieldLinkNest .. => true
  | .methodLinkNest .. => true
  | .arrayOver (.object _) => true
  | _ => false
theorem gN.warm {NW : List Cond} {s U : State} (hN : NW.all gnest = true) (h : gN NW s) (hW : s.WarmedH U.vm) : gN NW U := by
  intro x hx
  have h1 := List.all_eq_true.mp hN x hx
  have h2 := h x hx
  cases x with
  | fieldLinkNest => exact va_Nw.warmF hW h2
  | methodLinkNest => exact va_Nw.warmM hW h2
  | arrayOver t => cases t <;> first | (simp [gnest] at h1; done) | exact va_AO.moved hW.alike h2
  | _ => simp [gnest] at h1
theorem gN.same {NW : List Cond} {s U : State} (hN : NW.all gnest = true) (h : gN NW s) (hv : s.vm = U.vm) : gN NW U := by
  intro x hx
  have h1 := List.all_eq_true.mp hN x hx
  have h2 := h x hx
  cases x with
  | fieldLinkNest => exact va_Nw.same rfl hv h2
  | methodLinkNest => exact va_Nw.same rfl hv h2
  | arrayOver t => cases t <;> first | (simp [gnest] at h1; done) | exact va_AO.moved (hv ▸ Vm.Alike.refl s.vm) h2
  | _ => simp [gnest] at h1
def gP (D : va_G) (cl : List vw_C) (ty : List (ClassId × FieldType)) (NW : List Cond) (w : fW) (sz : Nat) (av : List Value) : Array Value → State → Prop := fun v U => v = av.toArray ∧ U.heap.size = sz ∧ fw_P D cl (gA w sz) w U.heap ∧ va_K D cl ty U ∧ gN NW U
def gQ (D : va_G) (cl : List vw_C) (A : Nat → Prop) (post : Option Value → fW → Prop) : Array Value → State → Outcome → State → Prop := fun _ st oc t => ∃ (v : Option Value) (w' : fW), oc = .returned v ∧ post v w' ∧ fw_P D cl A w' t.heap ∧ va_F A st t
theorem gP.blind {D : va_G} {cl : List vw_C} {ty : List (ClassId × FieldType)} {NW : List Cond} {w : fW} {sz : Nat} {av : List Value} (hN : NW.all gnest = true) : FrameBlind (gP D cl ty NW w sz av) := by
  intro a U g mk h
  obtain ⟨h1, h2, h3, h4, h5⟩ := h
  exact ⟨h1, h2, h3, va_K.moved (u := U) (U := U.calling g mk a) (Vm.Alike.refl U.vm) h4, gN.same hN h5 rfl⟩
/-- a contract over my worlds -/
abbrev gM (l : Launch) (BS NW : List Cond) (D : va_G) (cl : List vw_C) (ty : List (ClassId × FieldType)) (y : MethodName) (cc : ByteArray) (maxL : Nat) (ret : Option FieldType) (fr lo : Nat) (mc ms : Nat) (w : fW) (sz : Nat) (av : List Value) (post : Option Value → fW → Prop) : Prop :=
  Met l y (Cond.code y cc maxL ret :: BS) { frames := fr, cells := mc, slots := ms, locals := lo } (gP D cl ty NW w sz av) (gQ D cl (gA w sz) post) mc ms (gA w sz)
/-- what holds all along a walk -/
def gX (p : Program) (s : State) (m : MethodId) (args : Array Value) (meth : Method) (c : Code) (cc : ByteArray) (nL : Nat) (ret : Option FieldType) (own : String) (BS NW : List Cond) (D : va_G) (cl : List vw_C) (ty : List (ClassId × FieldType)) (A : Nat → Prop) : Prop :=
  p.tables.exec = Jvm.exec ∧ c.code = cc ∧ c.maxLocals = nL ∧ s.vm.findClass own = some m.cls ∧ (∀ x ∈ BS, x.before args s = true) ∧ gN NW s ∧ va_K D cl ty s ∧ (∀ q, s.heap.size ≤ q → A q) ∧ meth.sig.returnType = ret ∧ meth.locks = false
def gC (cl : List vw_C) (BS : List Cond) : Prop := ∀ (ci : Nat) (C : String) (T : u_T) (N : Nat), cl[ci]? = some (C, T, N) → (∀ x ∈ u_ws C T N, x ∈ BS) ∧ (∃ ty : Nat → FieldType, ∀ k, k < N → parseFieldDescriptor (T k).2.2.1 = some (ty k)) ∧ (∀ a, a < N → ∀ b, b < N → a ≠ b → (T a).2.1 ≠ (T b).2.1)
section GX
variable {p : Program} {l : Launch} {e : Env} {R : Room} {s : State} {m : MethodId} {args : Array Value} {below : List Frame} {meth : Method} {c : Code} {H : Heap} {locs : List Loc} {cells slots : Nat} {Q : State → Prop}
variable {cc : ByteArray} {nL : Nat} {ret : Option FieldType} {own : String} {BS NW : List Cond} {D : va_G} {cl : List vw_C} {ty : List (ClassId × FieldType)} {A : Nat → Prop}
variable {pc : Nat} {ls : Array Slot} {rest : List Value} {w : fW} {a : Nat}
theorem fw_get (X : gX p s m args meth c cc nL ret own BS NW D cl ty A) (hC : gC cl BS) (hF : fw_P D cl A w H) {ci : Nat} {fs : List Value} (he : w a = some (.inr (ci, fs))) {C : String} {T : u_T} {N index : Nat} (hc : cl[ci]? = some (C, T, N)) (k : Nat) (hk : k < N) (hlink : Cond.fieldLink own index (T k).1 (T k).2.1 (T k).2.2.1 ∈ BS) {v : Value} (hv : fs[k]? = some v) (hdg : decode cc pc = .ok (.getfield index, 3))
    (kk : W p l e R s m args below meth c H locs cells slots Q (F0 m (pc + 3) ls (v :: rest))) : W p l e R s m args below meth c H locs cells slots Q (F0 m pc ls (.ref a :: rest)) := by
  obtain ⟨hx, hb, -, hown, hts, -, hK, -, -, -⟩ := X
  exact va_get hx hb hts (hC ci C T N hc).1 hown hK (fw_one hF he) 0 rfl hc k hk (hts _ hlink) (fun _ h => h) hv hdg kk
theorem fw_put (X : gX p s m args meth c cc nL ret own BS NW D cl ty A) (hC : gC cl BS) (hF : fw_P D cl A w H) (hS0 : va_S A s.heap H locs) {ci : Nat} {fs : List Value} (he : w a = some (.inr (ci, fs))) {C : String} {T : u_T} {N index : Nat} (hc : cl[ci]? = some (C, T, N)) (k : Nat) (hk : k < N) (hlink : Cond.fieldLink own index (T k).1 (T k).2.1 (T k).2.2.1 ∈ BS) (hfin : (T k).2.2.2 = false) {tf : FieldType} {v : Value} (hd : parseFieldDescriptor (T k).2.2.1 = some tf) (hn : narrow tf v = v) (hfit : fits tf v = true) (hl : k < fs.length) (hdg : decode cc pc = .ok (.putfield index, 3))
    (kk : ∀ (H1 : Heap) (locs1 : List Loc), fw_P D cl A (va_up w a (some (.inr (ci, fs.set k v)))) H1 → va_S A s.heap H1 locs1 → W p l e R s m args below meth c H1 locs1 cells slots Q (F0 m (pc + 3) ls rest)) : W p l e R s m args below meth c H locs cells slots Q (F0 m pc ls (v :: .ref a :: rest)) := by
  obtain ⟨hx, hb, -, hown, hts, -, hK, -, -, -⟩ := X
  obtain ⟨hin, ⟨ty0, hty⟩, hnm⟩ := hC ci C T N hc
  have hap := va_apart (own := own) hts hin ty0 hty hnm hK hc
  obtain ⟨⟨r, h1, cell, q1, q2, q3, q4⟩, hAa⟩ := hF a _ he
  have hr : r = (C, T, N) := Option.some.inj (h1.symm.trans hc)
  subst hr
  obtain ⟨hS, hfc, kC, hkC, hkind⟩ := hK.1 ci _ hc
  obtain ⟨cf, kf, fi, f, hi, hsl⟩ := hS k hk
  have hlay := hts _ (hin _ (u_in_lay hk))
  unfold u_lay at hlay
  rw [if_neg (by rw [hfin]; decide)] at hlay
  have hst := (u_facts hfc hkC (u_lays hts hin hk) hi).1
  have h6 := u_store hfc hkC hkind hlay hi hd hn hfit
  refine W.putK hx hb (f := f) ⟨hown, hts _ hlink, ⟨_, _, _, hi⟩, hst⟩ (by rw [q2]; exact h6) q1 q3 (by rw [hsl]; exact k2_hasslot (q4 k hk)) rfl rfl hdg fun H' e1 e2 e3 => ?_
  rw [hsl] at e1 ⊢
  exact kk H' _ (hF.up hAa ⟨_, hc, t_OB.to (V := updV (vp_V fs) k v) ⟨_, e1, q2, q3, t_set q4 hap hk v⟩ (fun j _ => vp_updV_set hl v j)⟩ e3) (hS0.put e2 e3 hAa)
theorem fw_putF (X : gX p s m args meth c cc nL ret own BS NW D cl ty A) (hC : gC cl BS) (hF : fw_P D cl A w H) (hS0 : va_S A s.heap H locs) {ci : Nat} {fs : List Value} (he : w a = some (.inr (ci, fs))) {C : String} {T : u_T} {N index : Nat} (hc : cl[ci]? = some (C, T, N)) (k : Nat) (hk : k < N) (hlink : Cond.fieldLink own index (T k).1 (T k).2.1 (T k).2.2.1 ∈ BS) (hfin : (T k).2.2.2 = true) (hin2 : meth.name = "<init>") (hdecl : (T k).1 = own) {tf : FieldType} {v : Value} (hd : parseFieldDescriptor (T k).2.2.1 = some tf) (hn : narrow tf v = v) (hfit : fits tf v = true) (hl : k < fs.length) (hdg : decode cc pc = .ok (.putfield index, 3))
    (kk : ∀ (H1 : Heap) (locs1 : List Loc), fw_P D cl A (va_up w a (some (.inr (ci, fs.set k v)))) H1 → va_S A s.heap H1 locs1 → W p l e R s m args below meth c H1 locs1 cells slots Q (F0 m (pc + 3) ls rest)) : W p l e R s m args below meth c H locs cells slots Q (F0 m pc ls (v :: .ref a :: rest)) := by
  obtain ⟨hx, hb, -, hown, hts, -, hK, -, -, -⟩ := X
  obtain ⟨hin, ⟨ty0, hty⟩, hnm⟩ := hC ci C T N hc
  have hap := va_apart (own := own) hts hin ty0 hty hnm hK hc
  obtain ⟨⟨r, h1, cell, q1, q2, q3, q4⟩, hAa⟩ := hF a _ he
  have hr : r = (C, T, N) := Option.some.inj (h1.symm.trans hc)
  subst hr
  obtain ⟨hS, hfc, kC, hkC, hkind⟩ := hK.1 ci _ hc
  obtain ⟨cf, kf, fi, f, hi, hsl⟩ := hS k hk
  have hlay := hts _ (hin _ (u_in_lay hk))
  unfold u_lay at hlay
  rw [if_pos hfin] at hlay
  have hst := (u_facts hfc hkC (u_lays hts hin hk) hi).1
  have hcf : m.cls = cf := by
    obtain ⟨_, _, c', _, _, _, -, -, hf', -, -, -, hown2, -⟩ := Cond.laysFinal_spec hlay
    have e1 : c' = cf := by have := hi.symm.trans hf'; simp at this; exact this.1.symm
    rw [hdecl] at hown2
    rw [← e1]; exact Option.some.inj (hown.symm.trans hown2)
  have h6 := u_fits hfc hkC hkind (Or.inr hlay) hi hd hn hfit
  refine W.putFinK hx hb hown (hts _ hlink) hi hst hcf hin2 (by rw [q2]; exact h6) q1 q3 (by rw [hsl]; exact k2_hasslot (q4 k hk)) rfl rfl hdg fun H' e1 e2 e3 => ?_
  rw [hsl] at e1 ⊢
  exact kk H' _ (hF.up hAa ⟨_, hc, t_OB.to (V := updV (vp_V fs) k v) ⟨_, e1, q2, q3, t_set q4 hap hk v⟩ (fun j _ => vp_updV_set hl v j)⟩ e3) (hS0.put e2 e3 hAa)
theorem fw_iald (X : gX p s m args meth c cc nL ret own BS NW D cl ty A) (hF : fw_P D cl A w H) {cA : ClassId} {n : Nat} {f : Nat → Int32} (he : w a = some (.inl (cA, n, .inl f))) (t0 : Nat) (ht : ty[t0]? = some (cA, .int)) {i : Int32} (hin : vp_in i n) {v : Int32} (hv : f i.toNatClampNeg = v) (hdg : decode cc pc = .ok (.iaload, 1))
    (kk : W p l e R s m args below meth c H locs cells slots Q (F0 m (pc + 1) ls (.int v :: rest))) : W p l e R s m args below meth c H locs cells slots Q (F0 m pc ls (.int i :: .ref a :: rest)) := by
  subst hv
  obtain ⟨hx, hb, -, hown, hts, -, hK, -, -, -⟩ := X
  exact va_iald hx hb hK (fw_one hF he) 0 t0 rfl ht hin hdg kk
theorem fw_zald (X : gX p s m args meth c cc nL ret own BS NW D cl ty A) (hF : fw_P D cl A w H) {cA : ClassId} {n : Nat} {f : Nat → Int32} (he : w a = some (.inl (cA, n, .inl f))) (t0 : Nat) (ht : ty[t0]? = some (cA, .boolean)) {i : Int32} (hin : vp_in i n) {v : Int32} (hv : f i.toNatClampNeg = v) (hdg : decode cc pc = .ok (.baload, 1))
    (kk : W p l e R s m args below meth c H locs cells slots Q (F0 m (pc + 1) ls (.int v :: rest))) : W p l e R s m args below meth c H locs cells slots Q (F0 m pc ls (.int i :: .ref a :: rest)) := by
  subst hv
  obtain ⟨hx, hb, -, hown, hts, -, hK, -, -, -⟩ := X
  exact va_zald hx hb hK (fw_one hF he) 0 t0 rfl ht hin hdg kk
theorem fw_aldq (X : gX p s m args meth c cc nL ret own BS NW D cl ty A) (hF : fw_P D cl A w H) {cA : ClassId} {C : String} {n : Nat} {f : Nat → Option Nat} (he : w a = some (.inl (cA, n, .inr (.inr (.inr (.inr f)))))) (t0 : Nat) (ht : ty[t0]? = some (cA, .object C)) {i : Int32} (hin : vp_in i n) {v : Option Nat} (hv : f i.toNatClampNeg = v) (hdg : decode cc pc = .ok (.aaload, 1))
    (kk : W p l e R s m args below meth c H locs cells slots Q (F0 m (pc + 1) ls (va_rf v :: rest))) : W p l e R s m args below meth c H locs cells slots Q (F0 m pc ls (.int i :: .ref a :: rest)) := by
  subst hv
  obtain ⟨hx, hb, -, hown, hts, -, hK, -, -, -⟩ := X
  exact va_aldq hx hb hK (fw_one hF he) 0 t0 rfl ht hin hdg kk
theorem fw_alen (X : gX p s m args meth c cc nL ret own BS NW D cl ty A) (hF : fw_P D cl A w H) {cA : ClassId} {x : vp_A} (he : w a = some (.inl (cA, x))) (t0 : Nat) {tf : FieldType} (ht : ty[t0]? = some (cA, tf)) {v : Int32} (hv : Int32.ofNat x.1 = v) (hdg : decode cc pc = .ok (.arraylength, 1))
    (kk : W p l e R s m args below meth c H locs cells slots Q (F0 m (pc + 1) ls (.int v :: rest))) : W p l e R s m args below meth c H locs cells slots Q (F0 m pc ls (.ref a :: rest)) := by
  obtain ⟨hx, hb, -, hown, hts, -, hK, -, -, -⟩ := X
  exact va_alen hx hb hK (fw_one hF he) 0 t0 rfl ht hv hdg kk
theorem fw_iast (X : gX p s m args meth c cc nL ret own BS NW D cl ty A) (hF : fw_P D cl A w H) (hS : va_S A s.heap H locs) {cA : ClassId} {n : Nat} {f : Nat → Int32} (he : w a = some (.inl (cA, n, .inl f))) (t0 : Nat) (ht : ty[t0]? = some (cA, .int)) {i x : Int32} (hin : vp_in i n) (hdg : decode cc pc = .ok (.iastore, 1))
    (kk : ∀ (H1 : Heap) (locs1 : List Loc), fw_P D cl A (va_up w a (some (.inl (cA, n, .inl (upd f i.toNatClampNeg x))))) H1 → va_S A s.heap H1 locs1 → W p l e R s m args below meth c H1 locs1 cells slots Q (F0 m (pc + 1) ls rest)) : W p l e R s m args below meth c H locs cells slots Q (F0 m pc ls (.int x :: .int i :: .ref a :: rest)) := by
  obtain ⟨hx, hb, -, hown, hts, -, hK, -, -, -⟩ := X
  obtain ⟨hc1, hAa⟩ := hF a _ he
  refine W.iast hx hb hc1 ((hK.2 t0 _ ht).1 n (fun j => .int (f j))) (fun q => by cases q) (by show ¬ (i < 0 ∨ (arrV _ _ _).slots.size ≤ _); rw [arrV_size]; exact hin) rfl rfl hdg fun H1 e z oq => ?_
  refine kk H1 _ (hF.up hAa ?_ oq) (hS.put z oq hAa)
  show H1[a]? = some (vp_cell _ _)
  rw [e]
  rw [vp_cell_i, vp_cell_i, arrV_store]
  congr 2
  funext q
  by_cases hq : q = i.toNatClampNeg
  · subst hq
    simp [updV, upd]
  · simp [updV, upd, hq]
theorem fw_zast (X : gX p s m args meth c cc nL ret own BS NW D cl ty A) (hF : fw_P D cl A w H) (hS : va_S A s.heap H locs) {cA : ClassId} {n : Nat} {f : Nat → Int32} (he : w a = some (.inl (cA, n, .inl f))) (t0 : Nat) (ht : ty[t0]? = some (cA, .boolean)) {i x : Int32} (hin : vp_in i n) {v : Int32} (hv : vp_nar .boolean x = v) (hdg : decode cc pc = .ok (.bastore, 1))
    (kk : ∀ (H1 : Heap) (locs1 : List Loc), fw_P D cl A (va_up w a (some (.inl (cA, n, .inl (upd f i.toNatClampNeg v))))) H1 → va_S A s.heap H1 locs1 → W p l e R s m args below meth c H1 locs1 cells slots Q (F0 m (pc + 1) ls rest)) : W p l e R s m args below meth c H locs cells slots Q (F0 m pc ls (.int x :: .int i :: .ref a :: rest)) := by
  subst hv
  obtain ⟨hx, hb, -, hown, hts, -, hK, -, -, -⟩ := X
  obtain ⟨hc1, hAa⟩ := hF a _ he
  refine W.zast hx hb hc1 ((hK.2 t0 _ ht).1 n (fun j => .int (f j))) (fun q => by cases q) (by show ¬ (i < 0 ∨ (arrV _ _ _).slots.size ≤ _); rw [arrV_size]; exact hin) rfl rfl hdg fun H1 e z oq => ?_
  refine kk H1 _ (hF.up hAa ?_ oq) (hS.put z oq hAa)
  show H1[a]? = some (vp_cell _ _)
  rw [e]
  rw [vp_cell_i, vp_cell_i, arrV_store]
  congr 2
  funext q
  by_cases hq : q = i.toNatClampNeg
  · subst hq
    simp [updV, upd, vp_nar]
    try rfl
  · simp [updV, upd, vp_nar, hq]
theorem fw_astqN (X : gX p s m args meth c cc nL ret own BS NW D cl ty A) (hF : fw_P D cl A w H) (hS : va_S A s.heap H locs) {cA : ClassId} {C : String} {n : Nat} {f : Nat → Option Nat} (he : w a = some (.inl (cA, n, .inr (.inr (.inr (.inr f)))))) (t0 : Nat) (ht : ty[t0]? = some (cA, .object C)) {i : Int32} (hin : vp_in i n) (hdg : decode cc pc = .ok (.aastore, 1))
    (kk : ∀ (H1 : Heap) (locs1 : List Loc), fw_P D cl A (va_up w a (some (.inl (cA, n, .inr (.inr (.inr (.inr (va_up f i.toNatClampNeg none)))))))) H1 → va_S A s.heap H1 locs1 → W p l e R s m args below meth c H1 locs1 cells slots Q (F0 m (pc + 1) ls rest)) : W p l e R s m args below meth c H locs cells slots Q (F0 m pc ls (.null :: .int i :: .ref a :: rest)) := by
  obtain ⟨hx, hb, -, hown, hts, -, hK, -, -, -⟩ := X
  obtain ⟨hc1, hAa⟩ := hF a _ he
  refine va_WaastN (C := C) hx hb hc1 ((hK.2 t0 _ ht).1 n (fun j => va_rf (f j))) (fun h => by cases h) (by show ¬ (i < 0 ∨ (arrV _ _ _).slots.size ≤ _); rw [arrV_size]; exact hin) rfl rfl hdg fun H1 e z oq => ?_
  refine kk H1 _ (hF.up hAa ?_ oq) (hS.put z oq hAa)
  show H1[a]? = some (vp_cell _ _)
  rw [e]
  rw [vp_cell_q, vp_cell_q, arrV_store]
  congr 2
  funext q
  by_cases hq : q = i.toNatClampNeg
  · subst hq
    simp [updV, va_up, va_rf]
  · simp [updV, va_up, hq]
theorem fw_astq (X : gX p s m args meth c cc nL ret own BS NW D cl ty A) (hF : fw_P D cl A w H) (hS : va_S A s.heap H locs) {cA : ClassId} {r : vw_C} {n v ci : Nat} {vs : List Value} {f : Nat → Option Nat} (he : w a = some (.inl (cA, n, .inr (.inr (.inr (.inr f)))))) (t0 : Nat) (ht : ty[t0]? = some (cA, .object r.1)) (hv : w v = some (.inr (ci, vs))) (hc : cl[ci]? = some r) {i : Int32} (hin : vp_in i n) (hdg : decode cc pc = .ok (.aastore, 1))
    (kk : ∀ (H1 : Heap) (locs1 : List Loc), fw_P D cl A (va_up w a (some (.inl (cA, n, .inr (.inr (.inr (.inr (va_up f i.toNatClampNeg (some v))))))))) H1 → va_S A s.heap H1 locs1 → W p l e R s m args below meth c H1 locs1 cells slots Q (F0 m (pc + 1) ls rest)) : W p l e R s m args below meth c H locs cells slots Q (F0 m pc ls (.ref v :: .int i :: .ref a :: rest)) := by
  obtain ⟨hx, hb, -, hown, hts, -, hK, -, -, -⟩ := X
  obtain ⟨hc1, hAa⟩ := hF a _ he
  have hlt : i.toNatClampNeg < n := Nat.not_le.mp fun q => hin (Or.inr q)
  have h0 : ¬ i < 0 := fun q => hin (Or.inl q)
  obtain ⟨⟨r', hr', cellV, g1, g2, g3, -⟩, -⟩ := hF v _ hv
  have hcls := (hK.1 ci r hc).2
  obtain ⟨kA, comp, k1, k2, k3, -⟩ := (hK.2 t0 _ ht).2
  have hcomp : comp = D.1 ci := Option.some.inj (k3.symm.trans hcls.1)
  subst hcomp
  obtain ⟨kC, hkC, -⟩ := hcls.2
  refine W.aast hx hb hc1 (fun q h => by cases h) (fun h => by cases h) k1 k2 rfl hkC ⟨h0, by show _ < (arrV _ _ _).slots.size; rw [arrV_size]; exact hlt⟩ g1 (fun q h => by rw [g3] at h; cases h) (by rw [g2]; exact hkC) (by rw [g2]; exact va_assign hcls) rfl rfl hdg fun H1 e z oq => ?_
  refine kk H1 _ (hF.up hAa ?_ oq) (hS.put z oq hAa)
  show H1[a]? = some (vp_cell _ _)
  rw [e]
  rw [vp_cell_q, vp_cell_q, arrV_store]
  congr 2
  funext q
  by_cases hq : q = i.toNatClampNeg
  · subst hq
    simp [updV, va_up, va_rf]
  · simp [updV, va_up, hq]
theorem fw_new (X : gX p s m args meth c cc nL ret own BS NW D cl ty A) (hC : gC cl BS) (hF : fw_P D cl A w H) (hS : va_S A s.heap H locs) {ci : Nat} {C : String} {T : u_T} {N index : Nat} (hc : cl[ci]? = some (C, T, N)) (tf : Nat → FieldType) (htf : ∀ k, k < N → parseFieldDescriptor (T k).2.2.1 = some (tf k)) {fs : List Value} (hfs : ∀ j, j < N → defaultValue (tf j) = vp_V fs j) (hcl : Cond.classLink own index C ∈ BS) (hinst : Cond.instantiable C N ∈ BS) (hini : Cond.initialized C ∈ BS) (hcells : cells + 1 ≤ R.cells) (hslots : slots + N ≤ R.slots) (hdg : decode cc pc = .ok (.new index, 3))
    (kk : ∀ (q : Nat) (H1 : Heap), w q = none → q = H.size → H1.size = H.size + 1 → fw_P D cl A (va_up w q (some (.inr (ci, fs)))) H1 → va_S A s.heap H1 locs → W p l e R s m args below meth c H1 locs (cells + 1) (slots + N) Q (F0 m (pc + 3) ls (.ref q :: rest))) : W p l e R s m args below meth c H locs cells slots Q (F0 m pc ls rest) := by
  obtain ⟨hx, hb, -, hown, hts, -, hK, hA, -, -⟩ := X
  have hKn := hK.1 ci _ hc
  refine W.newcK hx hb hown (hts _ hcl) (hts _ hinst) (hts _ hini) rfl hdg hcells hslots hKn.2.1 rfl fun H1 kC hkC e1 z1 o1 => ?_
  refine kk H.size H1 (hF.fresh (Nat.le_refl _)) rfl z1 (hF.new (hA _ hS.1) ⟨_, hc, (u_born tf hts (hC ci C T N hc).1 hKn hkC e1 htf).to hfs⟩ o1) ⟨Nat.le_trans hS.1 (by omega), fun x h1 h2 => (o1 x (Nat.lt_of_lt_of_le h1 hS.1)).trans (hS.2.1 x h1 h2), hS.2.2⟩
theorem fw_newa (X : gX p s m args meth c cc nL ret own BS NW D cl ty A) (hF : fw_P D cl A w H) (hS : va_S A s.heap H locs) {atype : ArrayType} (harr : Cond.arrayClass (newarray.typeOf atype) ∈ BS) {tf : FieldType} (hty : newarray.typeOf atype = tf) (hpr : ∀ C, tf ≠ .object C) (t0 : Nat) {cA : ClassId} (ht : ty[t0]? = some (cA, tf)) {n : Int32} {N' : Nat} {a0 : vp_A} (ha : vp_cell cA a0 = arrV cA N' (fun _ => defaultValue tf)) (hn : ¬ n < 0) (hN : n.toNatClampNeg = N') (hbytes : N' * componentBytes tf ≤ 536870912) (hcells : cells + 1 ≤ R.cells) (hslots : slots + N' ≤ R.slots) (hdg : decode cc pc = .ok (.newarray atype, 2))
    (kk : ∀ (q : Nat) (H1 : Heap), w q = none → q = H.size → H1.size = H.size + 1 → fw_P D cl A (va_up w q (some (.inl (cA, a0)))) H1 → va_S A s.heap H1 locs → W p l e R s m args below meth c H1 locs (cells + 1) (slots + N') Q (F0 m (pc + 2) ls (.ref q :: rest))) : W p l e R s m args below meth c H locs cells slots Q (F0 m pc ls (.int n :: rest)) := by
  obtain ⟨hx, hb, -, hown, hts, -, hK, hA, -, -⟩ := X
  subst hty
  refine va_newaK hx hb (hts _ harr) rfl hdg rfl hn hN hbytes hcells hslots rfl fun H1 cA1 e1 z1 o1 hAr hNm => ?_
  have hRA := (hK.2 t0 _ ht).2
  have hcA : cA1 = cA := by
    have h2 : s.vm.findClass ("[" ++ (newarray.typeOf atype).toString) = some cA := by
      cases atype <;> exact hRA
    exact Option.some.inj (hNm.symm.trans h2)
  subst hcA
  refine kk H.size H1 (hF.fresh (Nat.le_refl _)) rfl z1 (hF.new (hA _ hS.1) ?_ o1) ⟨Nat.le_trans hS.1 (by omega), fun x h1 h2 => (o1 x (Nat.lt_of_lt_of_le h1 hS.1)).trans (hS.2.1 x h1 h2), hS.2.2⟩
  show H1[H.size]? = some (vp_cell _ _)
  rw [ha]
  exact e1
theorem fw_newq (X : gX p s m args meth c cc nL ret own BS NW D cl ty A) (hF : fw_P D cl A w H) (hS : va_S A s.heap H locs) {C : String} {index : Nat} (hclink : Cond.classLink own index C ∈ BS) (hover : Cond.arrayOver (.object C) ∈ NW) (t0 : Nat) {cA : ClassId} (ht : ty[t0]? = some (cA, .object C)) {n : Int32} {N' : Nat} (hn : ¬ n < 0) (hN : n.toNatClampNeg = N') (hbytes : N' * 4 ≤ 536870912) (hcells : cells + 1 ≤ R.cells) (hslots : slots + N' ≤ R.slots) (hdg : decode cc pc = .ok (.anewarray index, 3))
    (kk : ∀ (q : Nat) (H1 : Heap), w q = none → q = H.size → H1.size = H.size + 1 → fw_P D cl A (va_up w q (some (.inl (cA, N', .inr (.inr (.inr (.inr (fun _ => none)))))))) H1 → va_S A s.heap H1 locs → W p l e R s m args below meth c H1 locs (cells + 1) (slots + N') Q (F0 m (pc + 3) ls (.ref q :: rest))) : W p l e R s m args below meth c H locs cells slots Q (F0 m pc ls (.int n :: rest)) := by
  obtain ⟨hx, hb, -, hown, hts, hNN, hK, hA, -, -⟩ := X
  subst hN
  refine W.anew hx hb hown (hts _ hclink) (va_AO.use (hNN _ hover)) rfl hdg rfl hn hbytes hcells hslots fun cA1 kA comp f1 f2 f3 f4 => ?_
  obtain ⟨kA2, comp2, r1, r2, r3, r4⟩ := (hK.2 t0 _ ht).2
  have hcA : cA1 = cA := Option.some.inj (f1.symm.trans r4)
  subst hcA
  generalize hH1 : H.push ({ cls := cA1, slots := Array.replicate n.toNatClampNeg .null, vm := .none } : Cell) = H1
  have z1 : H1.size = H.size + 1 := by rw [← hH1, Array.size_push]
  have e1 : H1[H.size]? = some (arrV cA1 n.toNatClampNeg (fun _ => .null)) := by rw [← hH1, Array.getElem?_push_size, ← arrV_new]
  have o1 : ∀ q : Nat, q < H.size → H1[q]? = H[q]? := fun q hq => by rw [← hH1, Array.getElem?_push, if_neg (Nat.ne_of_lt hq)]
  refine kk H.size H1 (hF.fresh (Nat.le_refl _)) rfl z1 (hF.new (hA _ hS.1) ?_ o1) ⟨Nat.le_trans hS.1 (by omega), fun x h1 h2 => (o1 x (Nat.lt_of_lt_of_le h1 hS.1)).trans (hS.2.1 x h1 h2), hS.2.2⟩
  show H1[H.size]? = some (vp_cell _ _)
  rw [vp_cell_q]
  exact e1
theorem fw_iret {l : Launch} (X : gX p s m args meth c cc nL (some .int) own BS NW D cl ty A) (hF : fw_P D cl A w H) (hS : va_S A s.heap H locs) {post : Option Value → fW → Prop} {v : Int32} {mc ms : Nat} (hp : post (some (.int v)) w) (h1 : cells ≤ mc) (h2 : slots ≤ ms) (hdg : decode cc pc = .ok (.ireturn, 1)) : W p l e R s m args below meth c H locs cells slots (MQ below (gQ D cl A post) args s mc ms A) (F0 m pc ls [.int v]) := by
  obtain ⟨hx, hb, -, hown, hts, -, hK, hA, hr, hlocks⟩ := X
  refine W.widen h1 h2 ?_
  exact W.iret hx hb hr (fun t ht hW => ⟨_, w, rfl, hp, by rw [ht]; exact hF, hS.F ht⟩) hS.2.2 hdg
theorem fw_zret {l : Launch} (X : gX p s m args meth c cc nL (some .boolean) own BS NW D cl ty A) (hF : fw_P D cl A w H) (hS : va_S A s.heap H locs) {post : Option Value → fW → Prop} {v : Int32} {mc ms : Nat} (hn : narrow .boolean (.int v) = .int v) (hp : post (some (.int v)) w) (h1 : cells ≤ mc) (h2 : slots ≤ ms) (hdg : decode cc pc = .ok (.ireturn, 1)) : W p l e R s m args below meth c H locs cells slots (MQ below (gQ D cl A post) args s mc ms A) (F0 m pc ls [.int v]) := by
  obtain ⟨hx, hb, -, hown, hts, -, hK, hA, hr, hlocks⟩ := X
  refine W.widen h1 h2 ?_
  exact W.zret hx hb hr hn (fun t ht hW => ⟨_, w, rfl, hp, by rw [ht]; exact hF, hS.F ht⟩) hS.2.2 hdg
theorem fw_lret {l : Launch} (X : gX p s m args meth c cc nL (some .long) own BS NW D cl ty A) (hF : fw_P D cl A w H) (hS : va_S A s.heap H locs) {post : Option Value → fW → Prop} {v : Int64} {mc ms : Nat} (hp : post (some (.long v)) w) (h1 : cells ≤ mc) (h2 : slots ≤ ms) (hdg : decode cc pc = .ok (.lreturn, 1)) : W p l e R s m args below meth c H locs cells slots (MQ below (gQ D cl A post) args s mc ms A) (F0 m pc ls [.long v]) := by
  obtain ⟨hx, hb, -, hown, hts, -, hK, hA, hr, hlocks⟩ := X
  refine W.widen h1 h2 ?_
  exact W.lret hx hb hr (fun t ht hW => ⟨_, w, rfl, hp, by rw [ht]; exact hF, hS.F ht⟩) hS.2.2 hdg
theorem fw_vret {l : Launch} (X : gX p s m args meth c cc nL none own BS NW D cl ty A) (hF : fw_P D cl A w H) (hS : va_S A s.heap H locs) {post : Option Value → fW → Prop} {mc ms : Nat} (hp : post none w) (h1 : cells ≤ mc) (h2 : slots ≤ ms) (hdg : decode cc pc = .ok (.return_, 1)) : W p l e R s m args below meth c H locs cells slots (MQ below (gQ D cl A post) args s mc ms A) (F0 m pc ls []) := by
  obtain ⟨hx, hb, -, hown, hts, -, hK, hA, hr, hlocks⟩ := X
  refine W.widen h1 h2 ?_
  exact W.vret hx hb hr (fun t ht hW => ⟨_, w, rfl, hp, by rw [ht]; exact hF, hS.F ht⟩) hS.2.2 hdg
theorem fw_aret {l : Launch} {C : String} (X : gX p s m args meth c cc nL (some (.object C)) own BS NW D cl ty A) (hF : fw_P D cl A w H) (hS : va_S A s.heap H locs) {post : Option Value → fW → Prop} {o : Option Nat} {mc ms : Nat} (hp : post (some (va_rf o)) w) (h1 : cells ≤ mc) (h2 : slots ≤ ms) (hdg : decode cc pc = .ok (.areturn, 1)) : W p l e R s m args below meth c H locs cells slots (MQ below (gQ D cl A post) args s mc ms A) (F0 m pc ls [va_rf o]) := by
  obtain ⟨hx, hb, -, hown, hts, -, hK, hA, hr, hlocks⟩ := X
  refine W.widen h1 h2 ?_
  exact W.aret hx hb hr (Or.inl ⟨C, rfl⟩) (va_rf_or o) (fun t ht hW => ⟨_, w, rfl, hp, by rw [ht]; exact hF, hS.F ht⟩) hS.2.2 hdg
/-- behind a call -/
theorem fw_ran {mc ms sz : Nat} {st0 : List Value} {a9 : Array Value} {post : Option Value → fW → Prop} (hA : ∀ q, s.heap.size ≤ q → A q) (hr : va_Run p l e R s m args below meth c H locs cells slots mc ms (F0 m pc ls st0) rest (gQ D cl (gA w sz) post a9) (gA w sz)) (hsz : H.size = sz) (hF : fw_P D cl A w H) (hS : va_S A s.heap H locs)
    (kk : ∀ (v : Option Value) (w' : fW) (H1 : Heap) (locs1 : List Loc), post v w' → fw_P D cl A w' H1 → va_S A s.heap H1 locs1 → H.size ≤ H1.size → (∀ q : Nat, q < H.size → w q = none → H1[q]? = H[q]?) → (∀ q : Nat, w' q ≠ none → w q ≠ none ∨ H.size ≤ q) → W p l e R s m args below meth c H1 locs1 (cells + mc) (slots + ms) Q (F0 m (pc + 3) ls (v.toList ++ rest))) : W p l e R s m args below meth c H locs cells slots Q (F0 m pc ls st0) := by
  subst hsz
  intro T hT X0
  obtain ⟨v, st₀, t, T', L, h0, X', hL, e1, e2, ⟨v', w', hv, hp, hF1, hz, hk⟩, st⟩ := hr T hT X0
  cases hv
  rw [h0] at hz hk
  have hgA : ∀ q, gA w H.size q → A q := by
    intro q hq
    rcases hq with hq | hq
    · cases hx : w q with
      | none => exact absurd hx hq
      | some x => exact (hF q x hx).2
    · exact hA q (Nat.le_trans hS.1 hq)
  have hn : ∀ q : Nat, q < H.size → w q = none → ¬ gA w H.size q := fun q h1 h2 h3 => by
    rcases h3 with h3 | h3
    · exact h3 h2
    · omega
  obtain ⟨t2, a1, b1⟩ := kk v w' t.heap (locs ++ L) hp (hF1.wide hgA)
    ⟨Nat.le_trans hS.1 hz, fun q h1 h2 => by rw [hk q (Nat.lt_of_lt_of_le h1 hS.1) (fun z => h2 (hgA q z))]; exact hS.2.1 q h1 h2, fun q hq => by
      rcases List.mem_append.mp hq with h | h
      · exact hS.2.2 q h
      · exact hgA _ (hL q h)⟩ hz (fun q h1 h2 => hk q h1 (hn q h1 h2)) (fun q h1 => by
      cases hx : w' q with
      | none => exact absurd hx h1
      | some x => exact (hF1 q x hx).2) T' e1 X'
  exact ⟨t2, st t2 a1, b1⟩
theorem gP.pre {sz : Nat} {av : List Value} (hK : va_K D cl ty s) (hN : gN NW s) (hNW : NW.all gnest = true) (hF : fw_P D cl A w H) (hsz : H.size = sz) : ∀ U : State, U.heap = H → s.WarmedH U.vm → gP D cl ty NW w sz av av.toArray U := by
  intro U hU hW
  refine ⟨rfl, by rw [hU]; exact hsz, ?_, va_K.moved hW.alike hK, gN.warm hNW hN hW⟩
  rw [hU]
  intro a e x
  exact ⟨(hF a e x).1, Or.inl (by rw [x]; exact fun q => by cases q)⟩
end GX
section GY
variable {p : Program} {l : Launch} {e : Env} {R : Room} {s : State} {m : MethodId} {args : Array Value} {below : List Frame} {meth : Method} {c : Code} {H : Heap} {locs : List Loc} {cells slots : Nat} {Q : State → Prop}
variable {cc : ByteArray} {nL : Nat} {ret : Option FieldType} {own : String} {BS NW : List Cond} {D : va_G} {cl : List vw_C} {ty : List (ClassId × FieldType)} {A : Nat → Prop}
variable {pc : Nat} {ls : Array Slot} {rest st0 : List Value} {w : fW} {a : Nat}
variable {y : MethodName} {bytes : ByteArray} {maxL fr lo mc ms sz n index : Nat} {rt : Option FieldType} {As : List Value} {post : Option Value → fW → Prop}
/-- what a call asks of a method -/
def gF (BS : List Cond) (y : MethodName) (bytes : ByteArray) (maxL : Nat) (rt : Option FieldType) (n : Nat) : Prop := Cond.code y bytes maxL rt ∈ BS ∧ Cond.initialized y.cls ∈ BS ∧ (y.cls ≠ "java/lang/invoke/MethodHandle" ∧ y.cls ≠ "java/lang/invoke/VarHandle") ∧ (parseMethodDescriptor y.desc).map (fun d => d.parameters.length) = some n
theorem gF.good (hB : BS.all goodWord = true) (f : gF BS y bytes maxL rt n) : GoodIn BS (Cond.code y bytes maxL rt :: BS) := by
  intro x hx
  rcases List.mem_cons.mp hx with rfl | h
  · exact ⟨f.1, good_of_word (List.all_eq_true.mp hB _ f.1)⟩
  · exact ⟨h, good_of_word (List.all_eq_true.mp hB _ h)⟩
theorem gF.callB (X : gX p s m args meth c cc nL ret own BS NW D cl ty A) (hB : BS.all goodWord = true) (f : gF BS y bytes maxL rt n) (hl : Cond.methodLink own index y ∈ BS) (hR : fr + 1 ≤ R.frames ∧ 8 + (maxL + 11) + lo ≤ R.locals) : CallB R s args own index y bytes maxL rt (Cond.code y bytes maxL rt :: BS) { frames := fr, cells := mc, slots := ms, locals := lo } mc ms n := by
  obtain ⟨-, -, -, -, hts, -⟩ := X
  exact callB_of n hts (f.good hB) rfl rfl rfl (hts _ f.2.1) (hts _ hl) ⟨f.2.2.1.1, f.2.2.1.2, f.2.2.2⟩ hR
theorem gF.callN (X : gX p s m args meth c cc nL ret own BS NW D cl ty A) (hB : BS.all goodWord = true) (f : gF BS y bytes maxL rt n) {host : String} (hl : Cond.methodLinkNest own index y host ∈ NW) (hR : fr + 1 ≤ R.frames ∧ 8 + (maxL + 11) + lo ≤ R.locals) : va_CN R s args own index y host bytes maxL rt (Cond.code y bytes maxL rt :: BS) { frames := fr, cells := mc, slots := ms, locals := lo } mc ms n := by
  obtain ⟨-, -, -, -, hts, hN, -⟩ := X
  exact va_cnB n hts (f.good hB) rfl rfl rfl (hN _ hl) (hts _ f.2.1) ⟨f.2.2.1.1, f.2.2.1.2, f.2.2.2⟩ hR
theorem fw_callV (X : gX p s m args meth c cc nL ret own BS NW D cl ty A) (hB : BS.all goodWord = true) (hNW : NW.all gnest = true) (f : gF BS y bytes maxL rt n) (hM : gM l BS NW D cl ty y bytes maxL rt fr lo mc ms w sz (.ref a :: As) post) (hl : Cond.methodLink own index y ∈ BS) (hin : Cond.instanceMethod y ∈ BS) (hse : Cond.selects y.cls y y ∈ BS) (hF : fw_P D cl A w H) (hS : va_S A s.heap H locs) (hsz : H.size = sz) {ci : Nat} {fs : List Value} (he : w a = some (.inr (ci, fs))) {r : vw_C} (hc : cl[ci]? = some r) (hr : r.1 = y.cls) (hR : (fr + 1 ≤ R.frames ∧ 8 + (maxL + 11) + lo ≤ R.locals) ∧ cells + mc ≤ R.cells ∧ slots + ms ≤ R.slots) (hn : As.length = n) (hls : ls.size = nL) (hst : st0 = As.reverse ++ .ref a :: rest) (hW : (rest.map fun v => v.category).sum ≤ 8) (hdg : decode cc pc = .ok (.invokevirtual index, 3))
    (kk : ∀ (v : Option Value) (w' : fW) (H1 : Heap) (locs1 : List Loc), post v w' → fw_P D cl A w' H1 → va_S A s.heap H1 locs1 → H.size ≤ H1.size → (∀ q : Nat, q < H.size → w q = none → H1[q]? = H[q]?) → (∀ q : Nat, w' q ≠ none → w q ≠ none ∨ H.size ≤ q) → W p l e R s m args below meth c H1 locs1 (cells + mc) (slots + ms) Q (F0 m (pc + 3) ls (v.toList ++ rest))) : W p l e R s m args below meth c H locs cells slots Q (F0 m pc ls st0) := by
  have hb := f.callB (mc := mc) (ms := ms) (R := R) (lo := lo) (fr := fr) X hB hl hR.1
  obtain ⟨hx, hb', hml, hown, hts, hN, hK, hA, hret, hlocks⟩ := X
  refine fw_ran hA (va_runV (C := y.cls) (As := As) (rest := rest) ⟨hx, hb', hml, hown, hts⟩ hM ⟨hb, hts _ hin, hts _ hse⟩ ⟨gP.blind hNW, ?_, gP.pre hK hN hNW hF hsz⟩ rfl hn hls hst (lv_room hW) hdg hR.2) hsz hF hS kk
  obtain ⟨cell, g1, g2, g3⟩ := va_recv (q := r) hK (fw_one hF he) hc (q0 := 0) rfl
  exact ⟨cell, g1, g2, by rw [← hr]; exact g3⟩
theorem fw_callS (X : gX p s m args meth c cc nL ret own BS NW D cl ty A) (hB : BS.all goodWord = true) (hNW : NW.all gnest = true) (f : gF BS y bytes maxL rt n) (hM : gM l BS NW D cl ty y bytes maxL rt fr lo mc ms w sz As post) (hl : Cond.methodLink own index y ∈ BS) (hstt : Cond.static y ∈ BS) (hF : fw_P D cl A w H) (hS : va_S A s.heap H locs) (hsz : H.size = sz) (hR : (fr + 1 ≤ R.frames ∧ 8 + (maxL + 11) + lo ≤ R.locals) ∧ cells + mc ≤ R.cells ∧ slots + ms ≤ R.slots) (hn : As.length = n) (hls : ls.size = nL) (hst : st0 = As.reverse ++ rest) (hW : (rest.map fun v => v.category).sum ≤ 8) (hdg : decode cc pc = .ok (.invokestatic index, 3))
    (kk : ∀ (v : Option Value) (w' : fW) (H1 : Heap) (locs1 : List Loc), post v w' → fw_P D cl A w' H1 → va_S A s.heap H1 locs1 → H.size ≤ H1.size → (∀ q : Nat, q < H.size → w q = none → H1[q]? = H[q]?) → (∀ q : Nat, w' q ≠ none → w q ≠ none ∨ H.size ≤ q) → W p l e R s m args below meth c H1 locs1 (cells + mc) (slots + ms) Q (F0 m (pc + 3) ls (v.toList ++ rest))) : W p l e R s m args below meth c H locs cells slots Q (F0 m pc ls st0) := by
  have hb := f.callB (mc := mc) (ms := ms) (R := R) (lo := lo) (fr := fr) X hB hl hR.1
  obtain ⟨hx, hb', hml, hown, hts, hN, hK, hA, hret, hlocks⟩ := X
  exact fw_ran hA (va_runS (As := As) (rest := rest) ⟨hx, hb', hml, hown, hts⟩ hM ⟨hb, hts _ hstt⟩ ⟨gP.blind hNW, gP.pre hK hN hNW hF hsz⟩ rfl hn hls hst (lv_room hW) hdg hR.2) hsz hF hS kk
theorem fw_callSN (X : gX p s m args meth c cc nL ret own BS NW D cl ty A) (hB : BS.all goodWord = true) (hNW : NW.all gnest = true) (f : gF BS y bytes maxL rt n) (hM : gM l BS NW D cl ty y bytes maxL rt fr lo mc ms w sz As post) {host : String} (hl : Cond.methodLinkNest own index y host ∈ NW) (hstt : Cond.static y ∈ BS) (hF : fw_P D cl A w H) (hS : va_S A s.heap H locs) (hsz : H.size = sz) (hR : (fr + 1 ≤ R.frames ∧ 8 + (maxL + 11) + lo ≤ R.locals) ∧ cells + mc ≤ R.cells ∧ slots + ms ≤ R.slots) (hn : As.length = n) (hls : ls.size = nL) (hst : st0 = As.reverse ++ rest) (hW : (rest.map fun v => v.category).sum ≤ 8) (hdg : decode cc pc = .ok (.invokestatic index, 3))
    (kk : ∀ (v : Option Value) (w' : fW) (H1 : Heap) (locs1 : List Loc), post v w' → fw_P D cl A w' H1 → va_S A s.heap H1 locs1 → H.size ≤ H1.size → (∀ q : Nat, q < H.size → w q = none → H1[q]? = H[q]?) → (∀ q : Nat, w' q ≠ none → w q ≠ none ∨ H.size ≤ q) → W p l e R s m args below meth c H1 locs1 (cells + mc) (slots + ms) Q (F0 m (pc + 3) ls (v.toList ++ rest))) : W p l e R s m args below meth c H locs cells slots Q (F0 m pc ls st0) := by
  have hb := f.callN (mc := mc) (ms := ms) (R := R) (lo := lo) (fr := fr) X hB hl hR.1
  obtain ⟨hx, hb', hml, hown, hts, hN, hK, hA, hret, hlocks⟩ := X
  exact fw_ran hA (va_runSN (As := As) (rest := rest) ⟨hx, hb', hml, hown, hts⟩ hM ⟨hb, hts _ hstt, trivial⟩ ⟨gP.blind hNW, gP.pre hK hN hNW hF hsz⟩ rfl hn hls hst (lv_room hW) hdg hR.2) hsz hF hS kk
theorem fw_callI (X : gX p s m args meth c cc nL ret own BS NW D cl ty A) (hB : BS.all goodWord = true) (hNW : NW.all gnest = true) (f : gF BS y bytes maxL none n) (hM : gM l BS NW D cl ty y bytes maxL none fr lo mc ms w sz (.ref a :: As) post) (hl : Cond.methodLink own index y ∈ BS) (hin : Cond.instanceMethod y ∈ BS) (hnm : y.name = "<init>") (hF : fw_P D cl A w H) (hS : va_S A s.heap H locs) (hsz : H.size = sz) (hR : (fr + 1 ≤ R.frames ∧ 8 + (maxL + 11) + lo ≤ R.locals) ∧ cells + mc ≤ R.cells ∧ slots + ms ≤ R.slots) (hn : As.length = n) (hls : ls.size = nL) (hst : st0 = As.reverse ++ .ref a :: rest) (hW : (rest.map fun v => v.category).sum ≤ 8) (hdg : decode cc pc = .ok (.invokespecial index, 3))
    (kk : ∀ (v : Option Value) (w' : fW) (H1 : Heap) (locs1 : List Loc), post v w' → fw_P D cl A w' H1 → va_S A s.heap H1 locs1 → H.size ≤ H1.size → (∀ q : Nat, q < H.size → w q = none → H1[q]? = H[q]?) → (∀ q : Nat, w' q ≠ none → w q ≠ none ∨ H.size ≤ q) → W p l e R s m args below meth c H1 locs1 (cells + mc) (slots + ms) Q (F0 m (pc + 3) ls (v.toList ++ rest))) : W p l e R s m args below meth c H locs cells slots Q (F0 m pc ls st0) := by
  have hb := f.callB (mc := mc) (ms := ms) (R := R) (lo := lo) (fr := fr) X hB hl hR.1
  obtain ⟨hx, hb', hml, hown, hts, hN, hK, hA, hret, hlocks⟩ := X
  exact fw_ran hA (va_runI (As := As) (rest := rest) ⟨hx, hb', hml, hown, hts⟩ hM ⟨hb, hnm, hts _ hin⟩ ⟨gP.blind hNW, gP.pre hK hN hNW hF hsz⟩ rfl hn hls hst (lv_room hW) hdg hR.2) hsz hF hS kk
theorem fw_callIN (X : gX p s m args meth c cc nL ret own BS NW D cl ty A) (hB : BS.all goodWord = true) (hNW : NW.all gnest = true) (f : gF BS y bytes maxL none n) (hM : gM l BS NW D cl ty y bytes maxL none fr lo mc ms w sz (.ref a :: As) post) {host : String} (hl : Cond.methodLinkNest own index y host ∈ NW) (hin : Cond.instanceMethod y ∈ BS) (hnm : y.name = "<init>") (hF : fw_P D cl A w H) (hS : va_S A s.heap H locs) (hsz : H.size = sz) (hR : (fr + 1 ≤ R.frames ∧ 8 + (maxL + 11) + lo ≤ R.locals) ∧ cells + mc ≤ R.cells ∧ slots + ms ≤ R.slots) (hn : As.length = n) (hls : ls.size = nL) (hst : st0 = As.reverse ++ .ref a :: rest) (hW : (rest.map fun v => v.category).sum ≤ 8) (hdg : decode cc pc = .ok (.invokespecial index, 3))
    (kk : ∀ (v : Option Value) (w' : fW) (H1 : Heap) (locs1 : List Loc), post v w' → fw_P D cl A w' H1 → va_S A s.heap H1 locs1 → H.size ≤ H1.size → (∀ q : Nat, q < H.size → w q = none → H1[q]? = H[q]?) → (∀ q : Nat, w' q ≠ none → w q ≠ none ∨ H.size ≤ q) → W p l e R s m args below meth c H1 locs1 (cells + mc) (slots + ms) Q (F0 m (pc + 3) ls (v.toList ++ rest))) : W p l e R s m args below meth c H locs cells slots Q (F0 m pc ls st0) := by
  have hb := f.callN (mc := mc) (ms := ms) (R := R) (lo := lo) (fr := fr) X hB hl hR.1
  obtain ⟨hx, hb', hml, hown, hts, hN, hK, hA, hret, hlocks⟩ := X
  exact fw_ran hA (va_runIN (As := As) (rest := rest) ⟨hx, hb', hml, hown, hts⟩ hM ⟨hb, hnm, hts _ hin⟩ ⟨gP.blind hNW, gP.pre hK hN hNW hF hsz⟩ rfl hn hls hst (lv_room hW) hdg hR.2) hsz hF hS kk
theorem gM.of {av : List Value} (hy : plainName y.cls = true) (hlen : (lg_sl av).length ≤ maxL)
    (body : ∀ (p : Program) (e : Env) (s : State) (m : MethodId) (below : List Frame) (meth : Method) (c : Code) (A : Nat → Prop) (ls : Array Slot), gX p s m av.toArray meth c bytes maxL rt y.cls BS NW D cl ty A → s.heap.size = sz → meth.name = y.name → fw_P D cl A w s.heap → va_S A s.heap s.heap [] → lv_has ls maxL (lv_args 0 av) →
      W p l e { frames := fr, cells := mc, slots := ms, locals := lo } s m av.toArray below meth c s.heap [] 0 0 (MQ below (gQ D cl A post) av.toArray s mc ms A) (F0 m 0 ls [])) : gM l BS NW D cl ty y bytes maxL rt fr lo mc ms w sz av post := by
  refine Met.ofW (cc := bytes) (maxL := maxL) (ret := rt) hy rfl ?_
  intro p e s m args below meth c s₁ B hml hv
  obtain ⟨rfl, hsz, hF, hK, hN⟩ := hv
  have hts := atoms_spec (ws := Cond.code y bytes maxL rt :: BS) B.pre
  have hown : s.vm.findClass y.cls = some m.cls := findClass_of_methodNamed B.named
  have hin := (name_of_methodNamed B.named B.method).1
  subst hsz
  generalize hAe : gA w s.heap.size = A at hF ⊢
  have hA : ∀ q, s.heap.size ≤ q → A q := fun q h => by rw [← hAe]; exact Or.inr h
  rw [lg_entry_eq]
  exact body p e s m below meth c A _ ⟨B.exec, B.bytes, hml, hown, fun x hx => hts x (List.mem_cons_of_mem _ hx), hN, hK, hA, B.returns, B.notSynchronized⟩ rfl hin hF va_S.rf (lv_entry av hlen)
end GY
