theorem SW.nw {cs : Nat → ClassId} {ad : Nat → Nat} {T : Sg} {jf : Nat → Nat → Option Nat} {w : fW} (h : SW cs ad T jf w) {q : Nat} (hq : w q = none) (x : va_E) : SW cs ad T jf (va_up w q (some x)) := by
  have hne : ∀ t, t < 46 → t ≠ 9 → ad t ≠ q := fun t h1 h2 => by
    obtain ⟨e, h3, -⟩ := h.fix h1 h2
    exact gx_ne h3 hq
  exact ⟨h.1,
    by rw [va_up_ne _ _ (hne _ (by omega) (by omega))]; exact h.2.1,
    by rw [va_up_ne _ _ (hne _ (by omega) (by omega))]; exact h.2.2.1,
    by rw [va_up_ne _ _ (hne _ (by omega) (by omega))]; exact h.2.2.2.1,
    by rw [va_up_ne _ _ (hne _ (by omega) (by omega))]; exact h.2.2.2.2.1,
    by rw [va_up_ne _ _ (hne _ (by omega) (by omega))]; exact h.2.2.2.2.2.1,
    by rw [va_up_ne _ _ (hne _ (by omega) (by omega))]; exact h.2.2.2.2.2.2.1,
    by rw [va_up_ne _ _ (hne _ (by omega) (by omega))]; exact h.2.2.2.2.2.2.2.1,
    by rw [va_up_ne _ _ (hne _ (by omega) (by omega))]; exact h.2.2.2.2.2.2.2.2.1,
    by rw [va_up_ne _ _ (hne _ (by omega) (by omega))]; exact h.2.2.2.2.2.2.2.2.2.1,
    fun j hj => by rw [va_up_ne _ _ (hne _ (by omega) (by omega))]; exact h.2.2.2.2.2.2.2.2.2.2.1 j hj,
    fun j hj => by rw [va_up_ne _ _ (hne _ (by omega) (by omega))]; exact h.2.2.2.2.2.2.2.2.2.2.2.1 j hj,
    fun j hj => by rw [va_up_ne _ _ (hne _ (by omega) (by omega))]; exact h.2.2.2.2.2.2.2.2.2.2.2.2.1 j hj,
    fun j hj => by rw [va_up_ne _ _ (hne _ (by omega) (by omega))]; exact h.2.2.2.2.2.2.2.2.2.2.2.2.2.1 j hj,
    fun j hj => by rw [va_up_ne _ _ (hne _ (by omega) (by omega))]; exact h.2.2.2.2.2.2.2.2.2.2.2.2.2.2.1 j hj,
    fun j hj => by rw [va_up_ne _ _ (hne _ (by omega) (by omega))]; exact h.2.2.2.2.2.2.2.2.2.2.2.2.2.2.2.1 j hj,
    fun j hj => by rw [va_up_ne _ _ (hne _ (by omega) (by omega))]; exact h.2.2.2.2.2.2.2.2.2.2.2.2.2.2.2.2.1 j hj,
    fun j hj => by rw [va_up_ne _ _ (hne _ (by omega) (by omega))]; exact h.2.2.2.2.2.2.2.2.2.2.2.2.2.2.2.2.2.1 j hj,
    fun j hj => by rw [va_up_ne _ _ (hne _ (by omega) (by omega))]; exact h.2.2.2.2.2.2.2.2.2.2.2.2.2.2.2.2.2.2.1 j hj,
    fun r y hr => by rw [va_up_ne _ _ (gx_ne (h.2.2.2.2.2.2.2.2.2.2.2.2.2.2.2.2.2.2.2.1 r y hr) hq)]; exact h.2.2.2.2.2.2.2.2.2.2.2.2.2.2.2.2.2.2.2.1 r y hr,
    fun j k hj hk => by
      obtain ⟨r, h1, h2⟩ := h.2.2.2.2.2.2.2.2.2.2.2.2.2.2.2.2.2.2.2.2 j k hj hk
      exact ⟨r, h1, by rw [va_up_ne _ _ (gx_ne h2 hq)]; exact h2⟩⟩
theorem SW.joA {cs : Nat → ClassId} {ad : Nat → Nat} {T : Sg} {jf : Nat → Nat → Option Nat} {w : fW} (h : SW cs ad T jf w) {i : Nat} (hi : i < 4) (g : Nat → Option Nat) (hg : ∀ k, k < ix (tJo T i).1 → g k = jf i k) : SW cs ad (T) (va_up jf i g) (va_up w (ad (42 + i)) (some (.inl (cs 8, 16, .inr (.inr (.inr (.inr g))))))) := by
  have hne : ∀ t, t < 46 → t ≠ 42 + i → ad t ≠ ad (42 + i) := fun t h1 h2 => h.1.ne h1 (by omega) h2
  exact ⟨h.1,
    by rw [va_up_ne _ _ (hne _ (by omega) (by omega))]; exact h.2.1,
    by rw [va_up_ne _ _ (hne _ (by omega) (by omega))]; exact h.2.2.1,
    by rw [va_up_ne _ _ (hne _ (by omega) (by omega))]; exact h.2.2.2.1,
    by rw [va_up_ne _ _ (hne _ (by omega) (by omega))]; exact h.2.2.2.2.1,
    by rw [va_up_ne _ _ (hne _ (by omega) (by omega))]; exact h.2.2.2.2.2.1,
    by rw [va_up_ne _ _ (hne _ (by omega) (by omega))]; exact h.2.2.2.2.2.2.1,
    by rw [va_up_ne _ _ (hne _ (by omega) (by omega))]; exact h.2.2.2.2.2.2.2.1,
    by rw [va_up_ne _ _ (hne _ (by omega) (by omega))]; exact h.2.2.2.2.2.2.2.2.1,
    by rw [va_up_ne _ _ (hne _ (by omega) (by omega))]; exact h.2.2.2.2.2.2.2.2.2.1,
    fun j hj => by rw [va_up_ne _ _ (hne _ (by omega) (by omega))]; exact h.2.2.2.2.2.2.2.2.2.2.1 j hj,
    fun j hj => by rw [va_up_ne _ _ (hne _ (by omega) (by omega))]; exact h.2.2.2.2.2.2.2.2.2.2.2.1 j hj,
    fun j hj => by rw [va_up_ne _ _ (hne _ (by omega) (by omega))]; exact h.2.2.2.2.2.2.2.2.2.2.2.2.1 j hj,
    fun j hj => by rw [va_up_ne _ _ (hne _ (by omega) (by omega))]; exact h.2.2.2.2.2.2.2.2.2.2.2.2.2.1 j hj,
    fun j hj => by rw [va_up_ne _ _ (hne _ (by omega) (by omega))]; exact h.2.2.2.2.2.2.2.2.2.2.2.2.2.2.1 j hj,
    fun j hj => by rw [va_up_ne _ _ (hne _ (by omega) (by omega))]; exact h.2.2.2.2.2.2.2.2.2.2.2.2.2.2.2.1 j hj,
    fun j hj => by rw [va_up_ne _ _ (hne _ (by omega) (by omega))]; exact h.2.2.2.2.2.2.2.2.2.2.2.2.2.2.2.2.1 j hj,
    fun j hj => by rw [va_up_ne _ _ (hne _ (by omega) (by omega))]; exact h.2.2.2.2.2.2.2.2.2.2.2.2.2.2.2.2.2.1 j hj,
    fun j hj => by
      by_cases hji : j = i
      · subst hji; rw [va_up_self]; rw [va_up_self]
      · rw [va_up_ne _ _ (hne _ (by omega) (by omega))]; rw [va_up_ne _ _ hji]; exact h.2.2.2.2.2.2.2.2.2.2.2.2.2.2.2.2.2.2.1 j hj,
    fun q x hq => by rw [va_up_ne _ _ (h.ne7 (h.2.2.2.2.2.2.2.2.2.2.2.2.2.2.2.2.2.2.2.1 q x hq) (by omega) (by omega))]; exact h.2.2.2.2.2.2.2.2.2.2.2.2.2.2.2.2.2.2.2.1 q x hq,
    fun j k hj hk => by
      obtain ⟨q, h1, h2⟩ := h.2.2.2.2.2.2.2.2.2.2.2.2.2.2.2.2.2.2.2.2 j k hj hk
      refine ⟨q, ?_, by rw [va_up_ne _ _ (h.ne6 h2 (by omega) (by omega))]; exact h2⟩
      by_cases hji : j = i
      · subst hji; rw [va_up_self, hg k hk]; exact h1
      · rw [va_up_ne _ _ hji]; exact h1⟩
theorem SW.joO {cs : Nat → ClassId} {ad : Nat → Nat} {T : Sg} {jf : Nat → Nat → Option Nat} {w : fW} (h : SW cs ad T jf w) {i : Nat} (hi : i < 4) (n : Int32) (f : Nat → aSp) (hf : ∀ k, k < ix n → ∃ q, jf i k = some q ∧ w q = some (cSp (f k))) : SW cs ad (setJo T i (n, f)) (jf) (va_up w (ad (38 + i)) (some (.inr (2, [.ref (ad (42 + i)), .int n])))) := by
  have hne : ∀ t, t < 46 → t ≠ 38 + i → ad t ≠ ad (38 + i) := fun t h1 h2 => h.1.ne h1 (by omega) h2
  exact ⟨h.1,
    by rw [va_up_ne _ _ (hne _ (by omega) (by omega))]; exact h.2.1,
    by rw [va_up_ne _ _ (hne _ (by omega) (by omega))]; exact h.2.2.1,
    by rw [va_up_ne _ _ (hne _ (by omega) (by omega))]; exact h.2.2.2.1,
    by rw [va_up_ne _ _ (hne _ (by omega) (by omega))]; exact h.2.2.2.2.1,
    by rw [va_up_ne _ _ (hne _ (by omega) (by omega))]; exact h.2.2.2.2.2.1,
    by rw [va_up_ne _ _ (hne _ (by omega) (by omega))]; exact h.2.2.2.2.2.2.1,
    by rw [va_up_ne _ _ (hne _ (by omega) (by omega))]; exact h.2.2.2.2.2.2.2.1,
    by rw [va_up_ne _ _ (hne _ (by omega) (by omega))]; exact h.2.2.2.2.2.2.2.2.1,
    by rw [va_up_ne _ _ (hne _ (by omega) (by omega))]; exact h.2.2.2.2.2.2.2.2.2.1,
    fun j hj => by rw [va_up_ne _ _ (hne _ (by omega) (by omega))]; exact h.2.2.2.2.2.2.2.2.2.2.1 j hj,
    fun j hj => by rw [va_up_ne _ _ (hne _ (by omega) (by omega))]; exact h.2.2.2.2.2.2.2.2.2.2.2.1 j hj,
    fun j hj => by rw [va_up_ne _ _ (hne _ (by omega) (by omega))]; exact h.2.2.2.2.2.2.2.2.2.2.2.2.1 j hj,
    fun j hj => by rw [va_up_ne _ _ (hne _ (by omega) (by omega))]; exact h.2.2.2.2.2.2.2.2.2.2.2.2.2.1 j hj,
    fun j hj => by rw [va_up_ne _ _ (hne _ (by omega) (by omega))]; exact h.2.2.2.2.2.2.2.2.2.2.2.2.2.2.1 j hj,
    fun j hj => by rw [va_up_ne _ _ (hne _ (by omega) (by omega))]; exact h.2.2.2.2.2.2.2.2.2.2.2.2.2.2.2.1 j hj,
    fun j hj => by rw [va_up_ne _ _ (hne _ (by omega) (by omega))]; exact h.2.2.2.2.2.2.2.2.2.2.2.2.2.2.2.2.1 j hj,
    fun j hj => by
      by_cases hji : j = i
      · subst hji; rw [va_up_self]; rw [gJo, va_up_self]
      · rw [va_up_ne _ _ (hne _ (by omega) (by omega))]; rw [gJo, va_up_ne _ _ hji]; exact h.2.2.2.2.2.2.2.2.2.2.2.2.2.2.2.2.2.1 j hj,
    fun j hj => by rw [va_up_ne _ _ (hne _ (by omega) (by omega))]; exact h.2.2.2.2.2.2.2.2.2.2.2.2.2.2.2.2.2.2.1 j hj,
    fun q x hq => by rw [va_up_ne _ _ (h.ne7 (h.2.2.2.2.2.2.2.2.2.2.2.2.2.2.2.2.2.2.2.1 q x hq) (by omega) (by omega))]; exact h.2.2.2.2.2.2.2.2.2.2.2.2.2.2.2.2.2.2.2.1 q x hq,
    fun j k hj hk => by
      by_cases hji : j = i
      · subst hji
        rw [gJo, va_up_self] at hk ⊢
        obtain ⟨q, h1, h2⟩ := hf k hk
        exact ⟨q, h1, by rw [va_up_ne _ _ (h.ne6 h2 (by omega) (by omega))]; exact h2⟩
      · rw [gJo, va_up_ne _ _ hji] at hk ⊢
        obtain ⟨q, h1, h2⟩ := h.2.2.2.2.2.2.2.2.2.2.2.2.2.2.2.2.2.2.2.2 j k hj hk
        exact ⟨q, h1, by rw [va_up_ne _ _ (h.ne6 h2 (by omega) (by omega))]; exact h2⟩⟩
theorem ix_s {n : Int32} (h0 : 0 ≤ n) (h1 : n < 16) : ix (n + 1) = ix n + 1 := by
  obtain ⟨j, hj, e⟩ := vp_in_of (wi_in (wi_t h0 h1) (N := 16) (by decide)) (by decide)
  subst e
  rw [nI_1]
  show (nI (j + 1)).toNatClampNeg = (nI j).toNatClampNeg + 1
  rw [nI_clamp (by omega), nI_clamp (by omega)]
theorem SW.joP {cs : Nat → ClassId} {ad : Nat → Nat} {T : Sg} {jf : Nat → Nat → Option Nat} {w : fW} (h : SW cs ad T jf w) {i : Nat} (hi : i < 4) {t0 : Nat} {x : aSp} (h0 : 0 ≤ (tJo T i).1) (h1 : (tJo T i).1 < 16) (ht : w t0 = some (cSp x)) : SW cs ad (setJo T i ((tJo T i).1 + 1, va_up (tJo T i).2 (ix (tJo T i).1) x)) (va_up jf i (va_up (jf i) (ix (tJo T i).1) (some t0))) (va_up (va_up w (ad (42 + i)) (some (.inl (cs 8, 16, .inr (.inr (.inr (.inr (va_up (jf i) (ix (tJo T i).1) (some t0))))))))) (ad (38 + i)) (some (.inr (2, [.ref (ad (42 + i)), .int ((tJo T i).1 + 1)])))) := by
  refine (h.joA hi (va_up (jf i) (ix (tJo T i).1) (some t0)) (fun k hk => va_up_ne _ _ (by omega))).joO hi _ _ ?_
  intro k hk
  rw [ix_s h0 h1] at hk
  rw [va_up_self]
  by_cases hkn : k = ix (tJo T i).1
  · subst hkn
    refine ⟨t0, va_up_self _ _ _, ?_⟩
    rw [va_up_self, va_up_ne _ _ (h.ne6 ht (by omega) (by omega))]
    exact ht
  · rw [va_up_ne _ _ hkn, va_up_ne _ _ hkn]
    obtain ⟨q, h2, h3⟩ := h.2.2.2.2.2.2.2.2.2.2.2.2.2.2.2.2.2.2.2.2 i k hi (by omega)
    exact ⟨q, h2, by rw [va_up_ne _ _ (h.ne6 h3 (by omega) (by omega))]; exact h3⟩
def spStep (j k a b d sd : Int32) (T : Sg) : Int32 × Sg := if wi j 4 = true ∧ (sd = -1 ∨ wi sd 16 = true) ∧ okS k a b d = true then (if 16 ≤ (tJo T (ix j)).1 then (-3, T) else ((tJo T (ix j)).1, setJo T (ix j) ((tJo T (ix j)).1 + 1, va_up (tJo T (ix j)).2 (ix (tJo T (ix j)).1) (k, a, b, d, sd)))) else (-2, T)
def spGo (q : Nat) (x : aSp) (n : Int32) (T : Sg) : Bool × Sg := if (spAt q x.1 x.2.1 x.2.2.1 x.2.2.2.1 T).1.1 = 0 then (true, setRe (spAt q x.1 x.2.1 x.2.2.1 x.2.2.2.1 T).2 ((tRe (spAt q x.1 x.2.1 x.2.2.1 x.2.2.2.1 T).2).1 + 1, (tRe (spAt q x.1 x.2.1 x.2.2.1 x.2.2.2.1 T).2).2.1, (tRe (spAt q x.1 x.2.1 x.2.2.1 x.2.2.2.1 T).2).2.2.1, (tRe (spAt q x.1 x.2.1 x.2.2.1 x.2.2.2.1 T).2).2.2.2.1, (tRe (spAt q x.1 x.2.1 x.2.2.1 x.2.2.2.1 T).2).2.2.2.2.1, (tRe (spAt q x.1 x.2.1 x.2.2.1 x.2.2.2.1 T).2).2.2.2.2.2 + (spAt q x.1 x.2.1 x.2.2.1 x.2.2.2.1 T).1.2.toInt64)) else (false, setRe (spAt q x.1 x.2.1 x.2.2.1 x.2.2.2.1 T).2 ((tRe (spAt q x.1 x.2.1 x.2.2.1 x.2.2.2.1 T).2).1, (tRe (spAt q x.1 x.2.1 x.2.2.1 x.2.2.2.1 T).2).2.1 + 1, (spAt q x.1 x.2.1 x.2.2.1 x.2.2.2.1 T).1.1, n, (tRe (spAt q x.1 x.2.1 x.2.2.1 x.2.2.2.1 T).2).2.2.2.2.1, (tRe (spAt q x.1 x.2.1 x.2.2.1 x.2.2.2.1 T).2).2.2.2.2.2))
def stI1 (T : Sg) : Sg := setRe T ((tRe T).1, (tRe T).2.1, (tRe T).2.2.1, (tRe T).2.2.2.1, (tRe T).2.2.2.2.1 + 1, (tRe T).2.2.2.2.2)
def spIn (q : Nat) (j : Nat) (x : aSp) (T : Sg) : Bool × Sg := if wi x.2.2.2.2 (tJo T j).1 = true then spGo q ((tJo T j).2 (ix x.2.2.2.2)) x.2.2.2.2 (stI1 T) else (false, T)
theorem up_none {w : fW} {a q : Nat} {e : va_E} (h : va_up w a (some e) q = none) : w q = none := by
  by_cases hq : q = a
  · rw [hq, va_up_self] at h; cases h
  · rw [va_up_ne _ _ hq] at h; exact h

set_option maxHeartbeats 4000000 in
set_option maxRecDepth 100000 in
theorem c_X8_step (l : Launch) (D : va_G) (cs : Nat → ClassId) (w : fW) (sz : Nat) (ad : Nat → Nat) (T : Sg) (jf : Nat → Nat → Option Nat) (hW : SW cs ad T jf w) (hI : Inv T) (j k a b d sd : Int32) : gM l bs_B nw_B D cls10 (tyl cs) yX8_step cX8_step 8 (some .int) 2 45 1 5 w sz [.ref (ad 0), .int j, .int k, .int a, .int b, .int d, .int sd] (fun v w' => ∃ jf', v = some (.int (spStep j k a b d sd T).1) ∧ SW cs ad (spStep j k a b d sd T).2 jf' w') := by
  refine gM.of (by decide +kernel) (Nat.le_of_ble_eq_true rfl) (fun p e s m below meth c A ls X hsz hnm hF hS hl => ?_)
  have hx := X.1
  have hb := X.2.1
  have hl : lv_has ls 8 [(0, .ref (ad 0)), (1, .int j), (2, .int k), (3, .int a), (4, .int b), (5, .int d), (6, .int sd)] := hl
  refine lv_iload hx hb dX8_step_0 (lv_at hl 6 rfl) ?_
  refine lv_iconst (v := (-1)) hx hb dX8_step_2 (by decide) ?_
  refine lv_icmp_eq (tgt := 16) hx hb dX8_step_3 (by decide) (fun c3_1 => ?_) (fun c3_1 => ?_)
  · refine lv_iconst (v := 1) hx hb dX8_step_16 (by decide) ?_
    refine lv_goto (tgt := 21) hx hb dX8_step_17 (by decide) ?_
    refine lv_istore (lv' := [(7, .int 1), (0, .ref (ad 0)), (1, .int j), (2, .int k), (3, .int a), (4, .int b), (5, .int d), (6, .int sd)]) hx hb dX8_step_21 hl (by decide) rfl (fun ls hl => ?_)
    refine lv_iload_n hx hb dX8_step_23 rfl (lv_at hl 2 rfl) ?_
    refine lv_iconst (v := 4) hx hb dX8_step_24 (by decide) ?_
    refine fw_callS (As := [.int j, .int 4]) (rest := []) X bs_all nw_all mf_X8_isWithin (c_X8_isWithin l D cs _ _ j 4) wm_208 wm_209 hF hS rfl ((⟨⟨Nat.le_of_ble_eq_true rfl, Nat.le_of_ble_eq_true rfl⟩, Nat.le_of_ble_eq_true rfl, Nat.le_of_ble_eq_true rfl⟩)) rfl hl.1 rfl (Nat.le_of_ble_eq_true rfl) dX8_step_25 (fun v u2 H locs hp hF hS hz1 hk1 hd1 => ?_)
    obtain ⟨rfl, hw1⟩ := hp
    rw [hw1] at hF
    refine W.eq (g2 := F0 m 28 ls [.int (bz (wi j 4))]) rfl ?_
    refine gx_ifeq (tgt := 48) hx hb dX8_step_28 (by decide) (fun c28_3 => ?_) (fun c28_3 => ?_)
    · refine lv_bipush (v := (-2)) hx hb dX8_step_48 (by decide) ?_
      refine fw_iret X hF hS ?_ (Nat.le_of_ble_eq_true rfl) (Nat.le_of_ble_eq_true rfl) dX8_step_50
      have e9 : spStep j k a b d sd T = (-2, T) := if_neg (fun z => by simp_all)
      exact ⟨jf, by rw [e9], by rw [e9]; exact hW⟩
    · have hA9 : ix j < 4 := wi_lt c28_3 (N := 4) (by decide)
      refine lv_iload hx hb dX8_step_31 (lv_at hl 0 rfl) ?_
      refine lv_if_eq (tgt := 48) hx hb dX8_step_33 (by decide) (fun h => absurd h (by decide)) (fun _ => ?_)
      refine lv_iload_n hx hb dX8_step_36 rfl (lv_at hl 3 rfl) ?_
      refine lv_iload_n hx hb dX8_step_37 rfl (lv_at hl 4 rfl) ?_
      refine lv_iload hx hb dX8_step_38 (lv_at hl 5 rfl) ?_
      refine lv_iload hx hb dX8_step_40 (lv_at hl 6 rfl) ?_
      refine fw_callS (As := [.int k, .int a, .int b, .int d]) (rest := []) X bs_all nw_all mf_X8_isStep (c_X8_isStep l D cs _ _ k a b d) wm_205 wm_206 hF hS rfl ((⟨⟨Nat.le_of_ble_eq_true rfl, Nat.le_of_ble_eq_true rfl⟩, Nat.le_of_ble_eq_true rfl, Nat.le_of_ble_eq_true rfl⟩)) rfl hl.1 rfl (Nat.le_of_ble_eq_true rfl) dX8_step_42 (fun v u5 H locs hp hF hS hz1 hk1 hd1 => ?_)
      obtain ⟨rfl, hw1⟩ := hp
      rw [hw1] at hF
      refine W.eq (g2 := F0 m 45 ls [.int (bz (okS k a b d))]) rfl ?_
      refine gx_ifne (tgt := 51) hx hb dX8_step_45 (by decide) (fun c45_6 => ?_) (fun c45_6 => ?_)
      · refine lv_aload_n hx hb dX8_step_51 rfl (lv_at hl 1 rfl) ?_
        refine fw_get X gC_ok hF (hW.2.1) rfl 4 (by decide) wm_180 rfl dX8_step_52 ?_
        refine lv_iload_n hx hb dX8_step_55 rfl (lv_at hl 2 rfl) ?_
        refine fw_aldq X hF (hW.2.2.2.2.2.2.1) 6 rfl (wi_in c28_3 (N := 4) (by decide)) (v := some (ad (38 + (ix j)))) rfl dX8_step_56 ?_
        refine W.eq (g2 := F0 m 57 ls [.ref (ad (38 + (ix j)))]) rfl ?_
        refine fw_new (ci := 6) (fs := [.int 0, .int 0, .int 0, .int 0, .int 0]) X gC_ok hF hS rfl tyX6 tyX6_ok (by decide +kernel) wm_350 wm_351 wm_35 (Nat.le_of_ble_eq_true rfl) (Nat.le_of_ble_eq_true rfl) dX8_step_57 (fun q7 H nq7 zq7 zzq7 hF hS => ?_)
        refine lv_dup hx hb dX8_step_60 rfl ?_
        refine lv_iload_n hx hb dX8_step_61 rfl (lv_at hl 3 rfl) ?_
        refine lv_iload_n hx hb dX8_step_62 rfl (lv_at hl 4 rfl) ?_
        refine lv_iload hx hb dX8_step_63 (lv_at hl 5 rfl) ?_
        refine lv_iload hx hb dX8_step_65 (lv_at hl 6 rfl) ?_
        refine lv_iload hx hb dX8_step_67 (lv_at hl 7 rfl) ?_
        refine fw_callI (As := [.int k, .int a, .int b, .int d, .int sd]) (rest := [.ref q7, .ref (ad (38 + (ix j)))]) X bs_all nw_all mf_X6_init (c_X6_init l D cs _ _ q7 k a b d sd (va_up_self _ _ _)) wm_352 wm_353 rfl hF hS rfl ((⟨⟨Nat.le_of_ble_eq_true rfl, Nat.le_of_ble_eq_true rfl⟩, Nat.le_of_ble_eq_true rfl, Nat.le_of_ble_eq_true rfl⟩)) rfl hl.1 rfl (Nat.le_of_ble_eq_true rfl) dX8_step_69 (fun v u8 H locs hp hF hS hz1 hk1 hd1 => ?_)
        obtain ⟨rfl, hw1⟩ := hp
        rw [hw1] at hF
        refine W.eq (g2 := F0 m 72 ls [.ref q7, .ref (ad (38 + (ix j)))]) rfl ?_
        refine fw_callV (As := [.ref q7]) (rest := []) X bs_all nw_all mf_X2_append (c_X2_append l D cs _ _ (ad (38 + (ix j))) (ad (42 + (ix j))) ((tJo T (ix j)).1) (jf (ix j)) ((va_up_ne _ _ (gx_ne (hW.2.2.2.2.2.2.2.2.2.2.2.2.2.2.2.2.2.1 (ix j) hA9) nq7)).trans ((va_up_ne _ _ (gx_ne (hW.2.2.2.2.2.2.2.2.2.2.2.2.2.2.2.2.2.1 (ix j) hA9) nq7)).trans (hW.2.2.2.2.2.2.2.2.2.2.2.2.2.2.2.2.2.1 (ix j) hA9))) ((va_up_ne _ _ (gx_ne (hW.2.2.2.2.2.2.2.2.2.2.2.2.2.2.2.2.2.2.1 (ix j) hA9) nq7)).trans ((va_up_ne _ _ (gx_ne (hW.2.2.2.2.2.2.2.2.2.2.2.2.2.2.2.2.2.2.1 (ix j) hA9) nq7)).trans (hW.2.2.2.2.2.2.2.2.2.2.2.2.2.2.2.2.2.2.1 (ix j) hA9))) q7 k a b d sd (va_up_self _ _ _) (hI.2.2.2.2.1 _ hA9).1) wm_377 wm_378 wm_379 hF hS rfl ((va_up_ne _ _ (gx_ne (hW.2.2.2.2.2.2.2.2.2.2.2.2.2.2.2.2.2.1 (ix j) hA9) nq7)).trans ((va_up_ne _ _ (gx_ne (hW.2.2.2.2.2.2.2.2.2.2.2.2.2.2.2.2.2.1 (ix j) hA9) nq7)).trans (hW.2.2.2.2.2.2.2.2.2.2.2.2.2.2.2.2.2.1 (ix j) hA9))) rfl rfl ((⟨⟨Nat.le_of_ble_eq_true rfl, Nat.le_of_ble_eq_true rfl⟩, Nat.le_of_ble_eq_true rfl, Nat.le_of_ble_eq_true rfl⟩)) rfl hl.1 rfl (Nat.le_of_ble_eq_true rfl) dX8_step_72 (fun v u9 H locs hp hF hS hz1 hk1 hd1 => ?_)
        rcases hp with ⟨k1, rfl, hw1⟩ | ⟨k1, rfl, hw1⟩
        · rw [hw1] at hF
          refine W.eq (g2 := F0 m 75 ls [.int (-3)]) rfl ?_
          refine fw_iret X hF hS ?_ (Nat.le_of_ble_eq_true rfl) (Nat.le_of_ble_eq_true rfl) dX8_step_75
          have g9 : wi j 4 = true ∧ (sd = -1 ∨ wi sd 16 = true) ∧ okS k a b d = true := by simp_all
          have hW2 := hW.nw nq7 (.inr (6, [.int k, .int a, .int b, .int d, .int sd]))
          rw [← bx_uu] at hW2
          have e9 : spStep j k a b d sd T = (-3, T) := by unfold spStep; rw [if_pos g9, if_pos k1]
          exact ⟨jf, by rw [e9], by rw [e9]; exact hW2⟩
        · rw [hw1] at hF
          refine W.eq (g2 := F0 m 75 ls [.int ((tJo T (ix j)).1)]) rfl ?_
          refine fw_iret X hF hS ?_ (Nat.le_of_ble_eq_true rfl) (Nat.le_of_ble_eq_true rfl) dX8_step_75
          have g9 : wi j 4 = true ∧ (sd = -1 ∨ wi sd 16 = true) ∧ okS k a b d = true := by simp_all
          have hW2 := hW.nw nq7 (.inr (6, [.int k, .int a, .int b, .int d, .int sd]))
          rw [← bx_uu] at hW2
          have e9 : spStep j k a b d sd T = ((tJo T (ix j)).1, setJo T (ix j) ((tJo T (ix j)).1 + 1, va_up (tJo T (ix j)).2 (ix (tJo T (ix j)).1) (k, a, b, d, sd))) := by unfold spStep; rw [if_pos g9, if_neg (i_nle.mpr k1)]
          exact ⟨_, by rw [e9], by rw [e9]; exact hW2.joP hA9 (hI.2.2.2.2.1 _ hA9).1 k1 (va_up_self _ _ _)⟩
      · refine lv_bipush (v := (-2)) hx hb dX8_step_48 (by decide) ?_
        refine fw_iret X hF hS ?_ (Nat.le_of_ble_eq_true rfl) (Nat.le_of_ble_eq_true rfl) dX8_step_50
        have e9 : spStep j k a b d sd T = (-2, T) := if_neg (fun z => by simp_all)
        exact ⟨jf, by rw [e9], by rw [e9]; exact hW⟩
  · refine lv_iload hx hb dX8_step_6 (lv_at hl 6 rfl) ?_
    refine lv_bipush (v := 16) hx hb dX8_step_8 (by decide) ?_
    refine fw_callS (As := [.int sd, .int 16]) (rest := []) X bs_all nw_all mf_X8_isWithin (c_X8_isWithin l D cs _ _ sd 16) wm_208 wm_209 hF hS rfl ((⟨⟨Nat.le_of_ble_eq_true rfl, Nat.le_of_ble_eq_true rfl⟩, Nat.le_of_ble_eq_true rfl, Nat.le_of_ble_eq_true rfl⟩)) rfl hl.1 rfl (Nat.le_of_ble_eq_true rfl) dX8_step_10 (fun v u10 H locs hp hF hS hz1 hk1 hd1 => ?_)
    obtain ⟨rfl, hw1⟩ := hp
    rw [hw1] at hF
    refine W.eq (g2 := F0 m 13 ls [.int (bz (wi sd 16))]) rfl ?_
    refine gx_ifeq (tgt := 20) hx hb dX8_step_13 (by decide) (fun c13_11 => ?_) (fun c13_11 => ?_)
    · refine lv_iconst (v := 0) hx hb dX8_step_20 (by decide) ?_
      refine lv_istore (lv' := [(7, .int 0), (0, .ref (ad 0)), (1, .int j), (2, .int k), (3, .int a), (4, .int b), (5, .int d), (6, .int sd)]) hx hb dX8_step_21 hl (by decide) rfl (fun ls hl => ?_)
      refine lv_iload_n hx hb dX8_step_23 rfl (lv_at hl 2 rfl) ?_
      refine lv_iconst (v := 4) hx hb dX8_step_24 (by decide) ?_
      refine fw_callS (As := [.int j, .int 4]) (rest := []) X bs_all nw_all mf_X8_isWithin (c_X8_isWithin l D cs _ _ j 4) wm_208 wm_209 hF hS rfl ((⟨⟨Nat.le_of_ble_eq_true rfl, Nat.le_of_ble_eq_true rfl⟩, Nat.le_of_ble_eq_true rfl, Nat.le_of_ble_eq_true rfl⟩)) rfl hl.1 rfl (Nat.le_of_ble_eq_true rfl) dX8_step_25 (fun v u12 H locs hp hF hS hz1 hk1 hd1 => ?_)
      obtain ⟨rfl, hw1⟩ := hp
      rw [hw1] at hF
      refine W.eq (g2 := F0 m 28 ls [.int (bz (wi j 4))]) rfl ?_
      refine gx_ifeq (tgt := 48) hx hb dX8_step_28 (by decide) (fun c28_13 => ?_) (fun c28_13 => ?_)
      · refine lv_bipush (v := (-2)) hx hb dX8_step_48 (by decide) ?_
        refine fw_iret X hF hS ?_ (Nat.le_of_ble_eq_true rfl) (Nat.le_of_ble_eq_true rfl) dX8_step_50
        have e9 : spStep j k a b d sd T = (-2, T) := if_neg (fun z => by simp_all)
        exact ⟨jf, by rw [e9], by rw [e9]; exact hW⟩
      · have hA9 : ix j < 4 := wi_lt c28_13 (N := 4) (by decide)
        refine lv_iload hx hb dX8_step_31 (lv_at hl 0 rfl) ?_
        refine lv_if_eq (tgt := 48) hx hb dX8_step_33 (by decide) (fun _ => ?_) (fun h => absurd rfl h)
        refine lv_bipush (v := (-2)) hx hb dX8_step_48 (by decide) ?_
        refine fw_iret X hF hS ?_ (Nat.le_of_ble_eq_true rfl) (Nat.le_of_ble_eq_true rfl) dX8_step_50
        have e9 : spStep j k a b d sd T = (-2, T) := if_neg (fun z => by simp_all)
        exact ⟨jf, by rw [e9], by rw [e9]; exact hW⟩
    · refine lv_iconst (v := 1) hx hb dX8_step_16 (by decide) ?_
      refine lv_goto (tgt := 21) hx hb dX8_step_17 (by decide) ?_
      refine lv_istore (lv' := [(7, .int 1), (0, .ref (ad 0)), (1, .int j), (2, .int k), (3, .int a), (4, .int b), (5, .int d), (6, .int sd)]) hx hb dX8_step_21 hl (by decide) rfl (fun ls hl => ?_)
      refine lv_iload_n hx hb dX8_step_23 rfl (lv_at hl 2 rfl) ?_
      refine lv_iconst (v := 4) hx hb dX8_step_24 (by decide) ?_
      refine fw_callS (As := [.int j, .int 4]) (rest := []) X bs_all nw_all mf_X8_isWithin (c_X8_isWithin l D cs _ _ j 4) wm_208 wm_209 hF hS rfl ((⟨⟨Nat.le_of_ble_eq_true rfl, Nat.le_of_ble_eq_true rfl⟩, Nat.le_of_ble_eq_true rfl, Nat.le_of_ble_eq_true rfl⟩)) rfl hl.1 rfl (Nat.le_of_ble_eq_true rfl) dX8_step_25 (fun v u15 H locs hp hF hS hz1 hk1 hd1 => ?_)
      obtain ⟨rfl, hw1⟩ := hp
      rw [hw1] at hF
      refine W.eq (g2 := F0 m 28 ls [.int (bz (wi j 4))]) rfl ?_
      refine gx_ifeq (tgt := 48) hx hb dX8_step_28 (by decide) (fun c28_16 => ?_) (fun c28_16 => ?_)
      · refine lv_bipush (v := (-2)) hx hb dX8_step_48 (by decide) ?_
        refine fw_iret X hF hS ?_ (Nat.le_of_ble_eq_true rfl) (Nat.le_of_ble_eq_true rfl) dX8_step_50
        have e9 : spStep j k a b d sd T = (-2, T) := if_neg (fun z => by simp_all)
        exact ⟨jf, by rw [e9], by rw [e9]; exact hW⟩
      · have hA9 : ix j < 4 := wi_lt c28_16 (N := 4) (by decide)
        refine lv_iload hx hb dX8_step_31 (lv_at hl 0 rfl) ?_
        refine lv_if_eq (tgt := 48) hx hb dX8_step_33 (by decide) (fun h => absurd h (by decide)) (fun _ => ?_)
        refine lv_iload_n hx hb dX8_step_36 rfl (lv_at hl 3 rfl) ?_
        refine lv_iload_n hx hb dX8_step_37 rfl (lv_at hl 4 rfl) ?_
        refine lv_iload hx hb dX8_step_38 (lv_at hl 5 rfl) ?_
        refine lv_iload hx hb dX8_step_40 (lv_at hl 6 rfl) ?_
        refine fw_callS (As := [.int k, .int a, .int b, .int d]) (rest := []) X bs_all nw_all mf_X8_isStep (c_X8_isStep l D cs _ _ k a b d) wm_205 wm_206 hF hS rfl ((⟨⟨Nat.le_of_ble_eq_true rfl, Nat.le_of_ble_eq_true rfl⟩, Nat.le_of_ble_eq_true rfl, Nat.le_of_ble_eq_true rfl⟩)) rfl hl.1 rfl (Nat.le_of_ble_eq_true rfl) dX8_step_42 (fun v u18 H locs hp hF hS hz1 hk1 hd1 => ?_)
        obtain ⟨rfl, hw1⟩ := hp
        rw [hw1] at hF
        refine W.eq (g2 := F0 m 45 ls [.int (bz (okS k a b d))]) rfl ?_
        refine gx_ifne (tgt := 51) hx hb dX8_step_45 (by decide) (fun c45_19 => ?_) (fun c45_19 => ?_)
        · refine lv_aload_n hx hb dX8_step_51 rfl (lv_at hl 1 rfl) ?_
          refine fw_get X gC_ok hF (hW.2.1) rfl 4 (by decide) wm_180 rfl dX8_step_52 ?_
          refine lv_iload_n hx hb dX8_step_55 rfl (lv_at hl 2 rfl) ?_
          refine fw_aldq X hF (hW.2.2.2.2.2.2.1) 6 rfl (wi_in c28_16 (N := 4) (by decide)) (v := some (ad (38 + (ix j)))) rfl dX8_step_56 ?_
          refine W.eq (g2 := F0 m 57 ls [.ref (ad (38 + (ix j)))]) rfl ?_
          refine fw_new (ci := 6) (fs := [.int 0, .int 0, .int 0, .int 0, .int 0]) X gC_ok hF hS rfl tyX6 tyX6_ok (by decide +kernel) wm_350 wm_351 wm_35 (Nat.le_of_ble_eq_true rfl) (Nat.le_of_ble_eq_true rfl) dX8_step_57 (fun q20 H nq20 zq20 zzq20 hF hS => ?_)
          refine lv_dup hx hb dX8_step_60 rfl ?_
          refine lv_iload_n hx hb dX8_step_61 rfl (lv_at hl 3 rfl) ?_
          refine lv_iload_n hx hb dX8_step_62 rfl (lv_at hl 4 rfl) ?_
          refine lv_iload hx hb dX8_step_63 (lv_at hl 5 rfl) ?_
          refine lv_iload hx hb dX8_step_65 (lv_at hl 6 rfl) ?_
          refine lv_iload hx hb dX8_step_67 (lv_at hl 7 rfl) ?_
          refine fw_callI (As := [.int k, .int a, .int b, .int d, .int sd]) (rest := [.ref q20, .ref (ad (38 + (ix j)))]) X bs_all nw_all mf_X6_init (c_X6_init l D cs _ _ q20 k a b d sd (va_up_self _ _ _)) wm_352 wm_353 rfl hF hS rfl ((⟨⟨Nat.le_of_ble_eq_true rfl, Nat.le_of_ble_eq_true rfl⟩, Nat.le_of_ble_eq_true rfl, Nat.le_of_ble_eq_true rfl⟩)) rfl hl.1 rfl (Nat.le_of_ble_eq_true rfl) dX8_step_69 (fun v u21 H locs hp hF hS hz1 hk1 hd1 => ?_)
          obtain ⟨rfl, hw1⟩ := hp
          rw [hw1] at hF
          refine W.eq (g2 := F0 m 72 ls [.ref q20, .ref (ad (38 + (ix j)))]) rfl ?_
          refine fw_callV (As := [.ref q20]) (rest := []) X bs_all nw_all mf_X2_append (c_X2_append l D cs _ _ (ad (38 + (ix j))) (ad (42 + (ix j))) ((tJo T (ix j)).1) (jf (ix j)) ((va_up_ne _ _ (gx_ne (hW.2.2.2.2.2.2.2.2.2.2.2.2.2.2.2.2.2.1 (ix j) hA9) nq20)).trans ((va_up_ne _ _ (gx_ne (hW.2.2.2.2.2.2.2.2.2.2.2.2.2.2.2.2.2.1 (ix j) hA9) nq20)).trans (hW.2.2.2.2.2.2.2.2.2.2.2.2.2.2.2.2.2.1 (ix j) hA9))) ((va_up_ne _ _ (gx_ne (hW.2.2.2.2.2.2.2.2.2.2.2.2.2.2.2.2.2.2.1 (ix j) hA9) nq20)).trans ((va_up_ne _ _ (gx_ne (hW.2.2.2.2.2.2.2.2.2.2.2.2.2.2.2.2.2.2.1 (ix j) hA9) nq20)).trans (hW.2.2.2.2.2.2.2.2.2.2.2.2.2.2.2.2.2.2.1 (ix j) hA9))) q20 k a b d sd (va_up_self _ _ _) (hI.2.2.2.2.1 _ hA9).1) wm_377 wm_378 wm_379 hF hS rfl ((va_up_ne _ _ (gx_ne (hW.2.2.2.2.2.2.2.2.2.2.2.2.2.2.2.2.2.1 (ix j) hA9) nq20)).trans ((va_up_ne _ _ (gx_ne (hW.2.2.2.2.2.2.2.2.2.2.2.2.2.2.2.2.2.1 (ix j) hA9) nq20)).trans (hW.2.2.2.2.2.2.2.2.2.2.2.2.2.2.2.2.2.1 (ix j) hA9))) rfl rfl ((⟨⟨Nat.le_of_ble_eq_true rfl, Nat.le_of_ble_eq_true rfl⟩, Nat.le_of_ble_eq_true rfl, Nat.le_of_ble_eq_true rfl⟩)) rfl hl.1 rfl (Nat.le_of_ble_eq_true rfl) dX8_step_72 (fun v u22 H locs hp hF hS hz1 hk1 hd1 => ?_)
          rcases hp with ⟨k1, rfl, hw1⟩ | ⟨k1, rfl, hw1⟩
          · rw [hw1] at hF
            refine W.eq (g2 := F0 m 75 ls [.int (-3)]) rfl ?_
            refine fw_iret X hF hS ?_ (Nat.le_of_ble_eq_true rfl) (Nat.le_of_ble_eq_true rfl) dX8_step_75
            have g9 : wi j 4 = true ∧ (sd = -1 ∨ wi sd 16 = true) ∧ okS k a b d = true := by simp_all
            have hW2 := hW.nw nq20 (.inr (6, [.int k, .int a, .int b, .int d, .int sd]))
            rw [← bx_uu] at hW2
            have e9 : spStep j k a b d sd T = (-3, T) := by unfold spStep; rw [if_pos g9, if_pos k1]
            exact ⟨jf, by rw [e9], by rw [e9]; exact hW2⟩
          · rw [hw1] at hF
            refine W.eq (g2 := F0 m 75 ls [.int ((tJo T (ix j)).1)]) rfl ?_
            refine fw_iret X hF hS ?_ (Nat.le_of_ble_eq_true rfl) (Nat.le_of_ble_eq_true rfl) dX8_step_75
            have g9 : wi j 4 = true ∧ (sd = -1 ∨ wi sd 16 = true) ∧ okS k a b d = true := by simp_all
            have hW2 := hW.nw nq20 (.inr (6, [.int k, .int a, .int b, .int d, .int sd]))
            rw [← bx_uu] at hW2
            have e9 : spStep j k a b d sd T = ((tJo T (ix j)).1, setJo T (ix j) ((tJo T (ix j)).1 + 1, va_up (tJo T (ix j)).2 (ix (tJo T (ix j)).1) (k, a, b, d, sd))) := by unfold spStep; rw [if_pos g9, if_neg (i_nle.mpr k1)]
            exact ⟨_, by rw [e9], by rw [e9]; exact hW2.joP hA9 (hI.2.2.2.2.1 _ hA9).1 k1 (va_up_self _ _ _)⟩
        · refine lv_bipush (v := (-2)) hx hb dX8_step_48 (by decide) ?_
          refine fw_iret X hF hS ?_ (Nat.le_of_ble_eq_true rfl) (Nat.le_of_ble_eq_true rfl) dX8_step_50
          have e9 : spStep j k a b d sd T = (-2, T) := if_neg (fun z => by simp_all)
          exact ⟨jf, by rw [e9], by rw [e9]; exact hW⟩
