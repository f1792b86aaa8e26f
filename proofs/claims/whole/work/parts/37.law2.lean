set_option maxHeartbeats 4000000 in
set_option maxRecDepth 100000 in
theorem law_loop {p : Program} {l : Launch} {e : Env} {s : State} {m : MethodId} {below : List Frame} {meth : Method} {c : Code} {D : va_G} {cs : Nat → ClassId} {ad am : Nat → Nat} {b L : Nat} {xs : Nat → Int32} (hL : L ≤ 3584) (C0 : lw_At p s m meth c b L xs) (X : gX p s m #[Value.ref b] meth c cL_law 4 ret "CycleShopLaw" bs_B nw_B D cls10 (tyl cs) (fun q : Nat => s.heap.size ≤ q)) :
    ∀ (n j : Nat), 7 * j ≤ L → L + 1 ≤ 7 * j + n → ∀ (T : Sg) (H : Heap) (locs : List Loc), LI D cs ad am (fun q : Nat => s.heap.size ≤ q) s.heap T H locs → ∀ (ls : Array Slot), lv_has ls 4 [(0, .ref b), (1, .ref (ad 0)), (2, .ref (am 28)), (3, .int (nI (7 * j)))] → W p l e room_1 s m #[Value.ref b] below meth c H locs (66 + 32 * j) (3314 + 96 * j) (lw_Z below #[Value.ref b] s) (F0 m 18 ls []) := by
  obtain ⟨hx, hb, hr, hml, hown, hts, hX, hbl, hlocks, hgv⟩ := C0
  have hbA : ¬ (fun q : Nat => s.heap.size ≤ q) b := Nat.not_le.mpr hbl
  intro n
  induction n with
  | zero =>
    intro j h1 h2
    exact absurd h2 (by omega)
  | succ n ih =>
    intro j hj1 hj2 T H locs hLI ls hl
    have hS := hLI
    obtain ⟨_, _, _, _, _, _, _, _, _, hS⟩ := hS
    refine lv_iload_n hx hb dL_law_18 rfl (lv_at hl 3 rfl) ?_
    refine lv_aload_n hx hb dL_law_19 rfl (lv_at hl 0 rfl) ?_
    refine va_slen hx hb hX hbl hbA hS dL_law_20 ?_
    refine lv_bipush (v := 7) hx hb dL_law_21 (by decide) ?_
    refine lv_isub hx hb dL_law_23 ?_
    refine lv_icmp_gt (tgt := 485) hx hb dL_law_24 (by decide) (fun c24 => ?_) (fun c24 => ?_)
    · refine lv_iconst (v := 1) hx hb dL_law_485 (by decide) ?_
      refine va_forget (fun q hq => hS.2.2 q hq) ?_
      refine W.widen (k := 600000) (n := 7302250) (by omega) (by omega) ?_
      exact lw_ret hx hb hr hlocks dL_law_486
    · have hj7 : 7 * j + 7 ≤ L := law_cmp hL (by omega) c24
      have kk : ∀ (T : Sg) (H : Heap) (locs : List Loc) (cells slots : Nat), LI D cs ad am (fun q : Nat => s.heap.size ≤ q) s.heap T H locs → cells ≤ 66 + 32 * (j + 1) → slots ≤ 3314 + 96 * (j + 1) → W p l e room_1 s m #[Value.ref b] below meth c H locs cells slots (lw_Z below #[Value.ref b] s) (F0 m 479 ls []) := by
        intro T H locs cells slots hLI hc hs
        refine W.widen hc hs ?_
        refine lv_iinc (v := nI (7 * (j + 1))) (lv' := [(3, .int (nI (7 * (j + 1)))), (0, .ref b), (1, .ref (ad 0)), (2, .ref (am 28))]) hx hb dL_law_479 hl (k := 3) rfl (show nI (7 * j) + 7 = nI (7 * (j + 1)) from nI_add (7 * j) 7) (by decide) rfl (fun ls hl => ?_)
        refine lv_goto (tgt := 18) hx hb dL_law_482 (by decide) ?_
        exact ih (j + 1) (by omega) (by omega) T H locs hLI ls (lv_sub hl [1, 2, 3, 0] rfl)
      refine lv_aload_n hx hb dL_law_27 rfl (lv_at hl 0 rfl) ?_
      refine lv_iload_n hx hb dL_law_28 rfl (lv_at hl 3 rfl) ?_
      refine va_sld hx hb hX hbl hbA hS (i := nI (7 * j)) (vp_in_nI (by omega) (by omega)) dL_law_29 ?_
      refine lv_bipush (v := 15) hx hb dL_law_30 (by decide) ?_
      refine lv_iand hx hb dL_law_32 ?_
      rcases gx_sw11 (xs (nI (7 * j)).toNatClampNeg &&& 15) with sw | sw | sw | sw | sw | sw | sw | sw | sw | sw | sw | sw
      · refine lv_tableIn (off := 59) (tgt := 92) hx hb dL_law_33 (by rw [sw]; decide) (by rw [sw]; decide) (by rw [sw]; rfl) (by decide) ?_
        exact law_c0 X hX hbl hbA hj7 hL hl hLI kk
      · refine lv_tableIn (off := 113) (tgt := 146) hx hb dL_law_33 (by rw [sw]; decide) (by rw [sw]; decide) (by rw [sw]; rfl) (by decide) ?_
        exact law_c1 X hX hbl hbA hj7 hL hl hLI kk
      · refine lv_tableIn (off := 188) (tgt := 221) hx hb dL_law_33 (by rw [sw]; decide) (by rw [sw]; decide) (by rw [sw]; rfl) (by decide) ?_
        exact law_c2 X hX hbl hbA hj7 hL hl hLI kk
      · refine lv_tableIn (off := 211) (tgt := 244) hx hb dL_law_33 (by rw [sw]; decide) (by rw [sw]; decide) (by rw [sw]; rfl) (by decide) ?_
        exact law_c3 X hX hbl hbA hj7 hL hl hLI kk
      · refine lv_tableIn (off := 244) (tgt := 277) hx hb dL_law_33 (by rw [sw]; decide) (by rw [sw]; decide) (by rw [sw]; rfl) (by decide) ?_
        exact law_c4 X hX hbl hbA hj7 hL hl hLI kk
      · refine lv_tableIn (off := 267) (tgt := 300) hx hb dL_law_33 (by rw [sw]; decide) (by rw [sw]; decide) (by rw [sw]; rfl) (by decide) ?_
        exact law_c5 X hX hbl hbA hj7 hL hl hLI kk
      · refine lv_tableIn (off := 281) (tgt := 314) hx hb dL_law_33 (by rw [sw]; decide) (by rw [sw]; decide) (by rw [sw]; rfl) (by decide) ?_
        exact law_c6 X hX hbl hbA hj7 hL hl hLI kk
      · refine lv_tableIn (off := 304) (tgt := 337) hx hb dL_law_33 (by rw [sw]; decide) (by rw [sw]; decide) (by rw [sw]; rfl) (by decide) ?_
        exact law_c7 X hX hbl hbA hj7 hL hl hLI kk
      · refine lv_tableIn (off := 337) (tgt := 370) hx hb dL_law_33 (by rw [sw]; decide) (by rw [sw]; decide) (by rw [sw]; rfl) (by decide) ?_
        exact law_c8 X hX hbl hbA hj7 hL hl hLI kk
      · refine lv_tableIn (off := 370) (tgt := 403) hx hb dL_law_33 (by rw [sw]; decide) (by rw [sw]; decide) (by rw [sw]; rfl) (by decide) ?_
        exact law_c9 X hX hbl hbA hj7 hL hl hLI kk
      · refine lv_tableIn (off := 403) (tgt := 436) hx hb dL_law_33 (by rw [sw]; decide) (by rw [sw]; decide) (by rw [sw]; rfl) (by decide) ?_
        exact law_c10 X hX hbl hbA hj7 hL hl hLI kk
      · refine lv_tableOut (tgt := 479) hx hb dL_law_33 sw (by decide) ?_
        exact kk T H locs _ _ hLI (by omega) (by omega)
set_option maxHeartbeats 4000000 in
set_option maxRecDepth 100000 in
/-- THE LAW, from its entry -/
theorem whole_start {p : Program} {e : Env} {s : State} {m : MethodId} {below : List Frame} {meth : Method} {c : Code} (l : Launch) {b L : Nat} {xs : Nat → Int32} (hL : L ≤ 3584) (C0 : lw_At p s m meth c b L xs) : W p l e room_1 s m #[Value.ref b] below meth c s.heap [] 0 0 (lw_Z below #[Value.ref b] s) (entryFrame m ([Value.ref b] : List Value).toArray 4) := by
  obtain ⟨hx, hb, hr, hml, hown, hts, hX, hbl, hlocks, hgv⟩ := id C0
  obtain ⟨D, cs, hK⟩ := law_K hts
  have X : gX p s m #[Value.ref b] meth c cL_law 4 ret "CycleShopLaw" bs_B nw_B D cls10 (tyl cs) (fun q : Nat => s.heap.size ≤ q) := ⟨hx, hb, hml, hown, fun x h => hts x (bs_tbl h), law_nw hts, hK, fun _ h => h, hr, hlocks⟩
  have hF : fw_P D cls10 (fun q : Nat => s.heap.size ≤ q) (fun _ => none) s.heap := fun a e h => by cases h
  have hS : va_S (fun q : Nat => s.heap.size ≤ q) s.heap s.heap [] := va_S.rf
  have hl := lv_entry ([.ref b]) (n := 4) (Nat.le_of_ble_eq_true rfl)
  rw [lg_entry_eq]
  generalize (lg_sl ([.ref b]) ++ List.replicate (4 - (lg_sl ([.ref b])).length) Slot.unset).toArray = ls at hl ⊢
  have hl : lv_has ls 4 [(0, .ref b)] := hl
  refine fw_new (ci := 8) (fs := [.null, .null, .null, .null, .null, .null, .null, .null]) X gC_ok hF hS rfl tyX8 tyX8_ok (by decide +kernel) wm_36 wm_37 wm_25 (Nat.le_of_ble_eq_true rfl) (Nat.le_of_ble_eq_true rfl) dL_law_0 (fun q1 H n1 z1 zz1 hF hS => ?_)
  refine lv_dup hx hb dL_law_3 rfl ?_
  refine fw_callI (As := []) (rest := [.ref q1]) X bs_all nw_all mf_X8_init (c_X8_init l D cs _ _ q1 (va_up_self _ _ _)) wm_38 wm_39 rfl hF hS rfl ((⟨⟨Nat.le_of_ble_eq_true rfl, Nat.le_of_ble_eq_true rfl⟩, Nat.le_of_ble_eq_true rfl, Nat.le_of_ble_eq_true rfl⟩)) rfl hl.1 rfl (Nat.le_of_ble_eq_true rfl) dL_law_4 (fun v u1 H1 locs1 hp hF1 hS1 hz hk hd => ?_)
  obtain ⟨hv, ad, jf, had, hW⟩ := hp
  subst hv
  subst had
  clear hk hd hF hS
  refine W.eq (g2 := F0 m 7 ls [.ref (ad 0)]) rfl ?_
  refine lv_astore_n (lv' := [(1, .ref (ad 0)), (0, .ref b)]) hx hb dL_law_7 rfl hl (by decide) rfl (fun ls hl => ?_)
  refine fw_new (ci := 9) (fs := [.null, .null, .null, .null, .null, .null, .null, .null, .null, .null, .null, .null, .null, .null, .null, .null, .null, .null, .null, .int 0, .int 0, .int 0, .int 0, .int 0, .long 0, .null, .int 0, .int 0]) X gC_ok hF1 hS1 rfl tyX9 tyX9_ok (by decide +kernel) wm_473 wm_474 wm_32 (Nat.le_of_ble_eq_true rfl) (Nat.le_of_ble_eq_true rfl) dL_law_8 (fun q2 H2 n2 z2 zz2 hF2 hS2 => ?_)
  have hG1 : fw_P D cls10 (fun q : Nat => s.heap.size ≤ q) u1 H2 := hF2.sub (fun a e h => (va_up_ne _ _ (gx_ne h n2)).trans h)
  have hG2 : fw_P D cls10 (fun q : Nat => s.heap.size ≤ q) (va_up (fun _ => none) q2 (some (.inr (9, [.null, .null, .null, .null, .null, .null, .null, .null, .null, .null, .null, .null, .null, .null, .null, .null, .null, .null, .null, .int 0, .int 0, .int 0, .int 0, .int 0, .long 0, .null, .int 0, .int 0])))) H2 := hF2.sub (fun a e h => by
    by_cases ha : a = q2
    · subst ha; rw [va_up_self] at h ⊢; exact h
    · rw [va_up_ne _ _ ha] at h; cases h)
  have hdj : dj (va_up (fun _ => none) q2 (some (.inr (9, [.null, .null, .null, .null, .null, .null, .null, .null, .null, .null, .null, .null, .null, .null, .null, .null, .null, .null, .null, .int 0, .int 0, .int 0, .int 0, .int 0, .long 0, .null, .int 0, .int 0])))) u1 := fun q => by
    by_cases ha : q = q2
    · subst ha; exact Or.inr n2
    · exact Or.inl (va_up_ne _ _ ha)
  refine lv_dup hx hb dL_law_11 rfl ?_
  refine fw_callI (As := []) (rest := [.ref q2]) X bs_all nw_all mf_X9_init (c_X9_init l D cs _ _ q2 (va_up_self _ _ _)) wm_475 wm_476 rfl hG2 hS2 rfl ((⟨⟨Nat.le_of_ble_eq_true rfl, Nat.le_of_ble_eq_true rfl⟩, Nat.le_of_ble_eq_true rfl, Nat.le_of_ble_eq_true rfl⟩)) rfl hl.1 rfl (Nat.le_of_ble_eq_true rfl) dL_law_12 (fun v u2 H3 locs3 hp hF3 hS3 hz hk hd => ?_)
  obtain ⟨hF1b, hdj3⟩ := fw_ap hG1 hdj hk hd
  obtain ⟨hv, am, ham, hSm⟩ := hp
  subst hv
  subst ham
  refine W.eq (g2 := F0 m 15 ls [.ref (am 28)]) rfl ?_
  refine lv_astore_n (lv' := [(2, .ref (am 28)), (1, .ref (ad 0)), (0, .ref b)]) hx hb dL_law_15 rfl hl (by decide) rfl (fun ls hl => ?_)
  refine lv_iconst (v := 0) hx hb dL_law_16 (by decide) ?_
  refine lv_istore_n (lv' := [(3, .int 0), (2, .ref (am 28)), (1, .ref (ad 0)), (0, .ref b)]) hx hb dL_law_17 rfl hl (by decide) rfl (fun ls hl => ?_)
  refine W.widen (k := 66 + 32 * 0) (n := 3314 + 96 * 0) (Nat.le_of_ble_eq_true rfl) (Nat.le_of_ble_eq_true rfl) ?_
  exact law_loop hL C0 X (L + 1) 0 (Nat.zero_le _) (by omega) T00 H3 locs3 ⟨jf, u1, u2, hW, T00_inv, hSm, hF1b, hF3, hdj3.sy, hS3⟩ ls (lv_sub hl [3, 2, 1, 0] rfl)
