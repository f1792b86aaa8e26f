theorem lenI.nat {n : Int32} (h : lenI n) : ∃ N : Nat, N ≤ 12 ∧ ix n = N ∧ ∀ i : Nat, i ≤ 12 → (n ≤ nI i ↔ N ≤ i) := by
  have h1 := Int32.le_iff_toInt_le.mp h.1
  have h2 := Int32.le_iff_toInt_le.mp h.2
  have e1 : (-1 : Int32).toInt = -1 := rfl
  have e2 : (12 : Int32).toInt = 12 := rfl
  refine ⟨n.toInt.toNat, by omega, rfl, fun i hi => ?_⟩
  rw [Int32.le_iff_toInt_le, nI_toInt (by omega)]
  omega
def b2 (a b : Bool) : Int32 := bz a ||| (if b then 2 else 0)
theorem b2_11 (a b : Bool) : b2 a b ||| 1 ||| 2 = b2 (a || true) (b || true) := by cases a <;> cases b <;> rfl
theorem b2_10 (a b : Bool) : b2 a b ||| 1 ||| 0 = b2 (a || true) (b || false) := by cases a <;> cases b <;> rfl
theorem b2_01 (a b : Bool) : b2 a b ||| 0 ||| 2 = b2 (a || false) (b || true) := by cases a <;> cases b <;> rfl
theorem b2_00 (a b : Bool) : b2 a b ||| 0 ||| 0 = b2 (a || false) (b || false) := by cases a <;> cases b <;> rfl
/-- does a wheel hang in the first n racks -/
def hgN (T : Sg) (o : Option Nat) : Nat → Bool
  | 0 => false
  | n + 1 => hgN T o n || hldN o (tRa T n).2.2 (ix (tRa T n).1)
def spStand (T : Sg) (a k : Int32) : Int32 := if wi a 4 = true then (if wi k 8 = true then (if k = 6 then b2 (hgN T (tSt T (ix a)).2.2.1 4) (hgN T (tSt T (ix a)).2.2.2.1 4) else spTell (W9 T) (tSt T (ix a)) k) else -2147483648) else -2147483648
set_option maxHeartbeats 4000000 in
set_option maxRecDepth 100000 in
theorem c_X3_holds (l : Launch) (D : va_G) (cs : Nat → ClassId) (w : fW) (sz : Nat) (h0 h1 : Nat) (n : Int32) (di : Bool) (f : Nat → Option Nat) (h : w h0 = some (.inr (3, [.ref h1, .int n, .int (bz di)]))) (g : w h1 = some (.inl (cs 7, 12, .inr (.inr (.inr (.inr f)))))) (o : Option Nat) (hn : lenI n) : gM l bs_B nw_B D cls10 (tyl cs) yX3_holds cX3_holds 4 (some .boolean) 0 0 0 0 w sz [.ref h0, va_rf o] (fun v w' => v = some (.int (bz (hldN o f (ix n)))) ∧ w' = w) := by
  obtain ⟨N, hN, hNi, hle⟩ := hn.nat
  cases o with
  | none =>
    refine gM.of (by decide +kernel) (Nat.le_of_ble_eq_true rfl) (fun p e s m below meth c A ls X hsz hnm hF hS hl => ?_)
    have hx := X.1
    have hb := X.2.1
    have loop : ∀ (n9 i : Nat), i + n9 = N → ∀ (ls : Array Slot), lv_has ls 4 [(0, .ref h0), (1, .null), (2, .int (bz (hldN none f i))), (3, .int (nI i))] → W p l e ({ frames := 0, cells := 0, slots := 0, locals := 0 } : Room) s m ([.ref h0, .null] : List Value).toArray below meth c s.heap [] 0 0 (MQ below (gQ D cls10 A (fun v w' => v = some (.int (bz (hldN none f (ix n)))) ∧ w' = w)) ([.ref h0, .null] : List Value).toArray s 0 0 A) (F0 m 4 ls []) := by
      intro n9
      induction n9 with
      | zero =>
        intro i hi ls hl
        refine lv_iload_n hx hb dX3_holds_4 rfl (lv_at hl 3 rfl) ?_
        refine lv_aload_n hx hb dX3_holds_5 rfl (lv_at hl 0 rfl) ?_
        refine fw_get X gC_ok hF h rfl 1 (by decide) wm_135 rfl dX3_holds_6 ?_
        refine lv_icmp_ge (tgt := 40) hx hb dX3_holds_9 (by decide) (fun c9_1 => ?_) (fun c9_1 => ?_)
        · refine lv_iload_n hx hb dX3_holds_40 rfl (lv_at hl 2 rfl) ?_
          refine fw_zret X hF hS (gx_nbz _) ?_ (Nat.le_of_ble_eq_true rfl) (Nat.le_of_ble_eq_true rfl) dX3_holds_41
          exact ⟨by rw [hNi, show i = N by omega], rfl⟩
        · exact absurd ((hle i (by omega)).mpr (by omega)) c9_1
      | succ n9 ih =>
        intro i hi ls hl
        refine lv_iload_n hx hb dX3_holds_4 rfl (lv_at hl 3 rfl) ?_
        refine lv_aload_n hx hb dX3_holds_5 rfl (lv_at hl 0 rfl) ?_
        refine fw_get X gC_ok hF h rfl 1 (by decide) wm_135 rfl dX3_holds_6 ?_
        refine lv_icmp_ge (tgt := 40) hx hb dX3_holds_9 (by decide) (fun c9_1 => ?_) (fun c9_1 => ?_)
        · exact absurd ((hle i (by omega)).mp c9_1) (by omega)
        · refine lv_iload_n hx hb dX3_holds_12 rfl (lv_at hl 2 rfl) ?_
          refine lv_aload_nN hx hb dX3_holds_13 rfl (lv_at hl 1 rfl) ?_
          refine lv_ifnullN (tgt := 31) hx hb dX3_holds_14 (by decide) ?_
          refine lv_iconst (v := 0) hx hb dX3_holds_31 (by decide) ?_
          refine lv_ior hx hb dX3_holds_32 ?_
          refine lv_istore_n (lv' := [(2, .int ((bz (hldN none f i)) ||| 0)), (0, .ref h0), (1, .null), (3, .int (nI i))]) hx hb dX3_holds_33 rfl hl (by decide) rfl (fun ls hl => ?_)
          refine lv_iinc (v := nI (i + 1)) (lv' := [(3, .int (nI (i + 1))), (2, .int ((bz (hldN none f i)) ||| 0)), (0, .ref h0), (1, .null)]) hx hb dX3_holds_34 hl (k := 3) rfl (nI_1 i) (by decide) rfl (fun ls hl => ?_)
          refine lv_goto (tgt := 4) hx hb dX3_holds_37 (by decide) ?_
          have e9 : (bz (hldN none f i)) ||| 0 = bz (hldN none f (i + 1)) := by rw [show (0 : Int32) = bz false from rfl, i_ior]; simp [hldN]
          rw [e9] at hl
          exact ih (i + 1) (by omega) ls (lv_sub hl [2, 3, 1, 0] rfl)
    have hl : lv_has ls 4 [(0, .ref h0), (1, .null)] := hl
    refine lv_iconst (v := 0) hx hb dX3_holds_0 (by decide) ?_
    refine lv_istore_n (lv' := [(2, .int 0), (0, .ref h0), (1, .null)]) hx hb dX3_holds_1 rfl hl (by decide) rfl (fun ls hl => ?_)
    refine lv_iconst (v := 0) hx hb dX3_holds_2 (by decide) ?_
    refine lv_istore_n (lv' := [(3, .int 0), (2, .int 0), (0, .ref h0), (1, .null)]) hx hb dX3_holds_3 rfl hl (by decide) rfl (fun ls hl => ?_)
    exact loop N 0 (by omega) ls (lv_sub hl [2, 3, 1, 0] rfl)
  | some x =>
    refine gM.of (by decide +kernel) (Nat.le_of_ble_eq_true rfl) (fun p e s m below meth c A ls X hsz hnm hF hS hl => ?_)
    have hx := X.1
    have hb := X.2.1
    have loop : ∀ (n9 i : Nat), i + n9 = N → ∀ (ls : Array Slot), lv_has ls 4 [(0, .ref h0), (1, .ref x), (2, .int (bz (hldN (some x) f i))), (3, .int (nI i))] → W p l e ({ frames := 0, cells := 0, slots := 0, locals := 0 } : Room) s m ([.ref h0, .ref x] : List Value).toArray below meth c s.heap [] 0 0 (MQ below (gQ D cls10 A (fun v w' => v = some (.int (bz (hldN (some x) f (ix n)))) ∧ w' = w)) ([.ref h0, .ref x] : List Value).toArray s 0 0 A) (F0 m 4 ls []) := by
      intro n9
      induction n9 with
      | zero =>
        intro i hi ls hl
        refine lv_iload_n hx hb dX3_holds_4 rfl (lv_at hl 3 rfl) ?_
        refine lv_aload_n hx hb dX3_holds_5 rfl (lv_at hl 0 rfl) ?_
        refine fw_get X gC_ok hF h rfl 1 (by decide) wm_135 rfl dX3_holds_6 ?_
        refine lv_icmp_ge (tgt := 40) hx hb dX3_holds_9 (by decide) (fun c9_1 => ?_) (fun c9_1 => ?_)
        · refine lv_iload_n hx hb dX3_holds_40 rfl (lv_at hl 2 rfl) ?_
          refine fw_zret X hF hS (gx_nbz _) ?_ (Nat.le_of_ble_eq_true rfl) (Nat.le_of_ble_eq_true rfl) dX3_holds_41
          exact ⟨by rw [hNi, show i = N by omega], rfl⟩
        · exact absurd ((hle i (by omega)).mpr (by omega)) c9_1
      | succ n9 ih =>
        intro i hi ls hl
        refine lv_iload_n hx hb dX3_holds_4 rfl (lv_at hl 3 rfl) ?_
        refine lv_aload_n hx hb dX3_holds_5 rfl (lv_at hl 0 rfl) ?_
        refine fw_get X gC_ok hF h rfl 1 (by decide) wm_135 rfl dX3_holds_6 ?_
        refine lv_icmp_ge (tgt := 40) hx hb dX3_holds_9 (by decide) (fun c9_1 => ?_) (fun c9_1 => ?_)
        · exact absurd ((hle i (by omega)).mp c9_1) (by omega)
        · refine lv_iload_n hx hb dX3_holds_12 rfl (lv_at hl 2 rfl) ?_
          refine lv_aload_n hx hb dX3_holds_13 rfl (lv_at hl 1 rfl) ?_
          refine lv_ifnull hx hb dX3_holds_14 ?_
          refine lv_aload_n hx hb dX3_holds_17 rfl (lv_at hl 0 rfl) ?_
          refine fw_get X gC_ok hF h rfl 0 (by decide) wm_134 rfl dX3_holds_18 ?_
          refine lv_iload_n hx hb dX3_holds_21 rfl (lv_at hl 3 rfl) ?_
          refine fw_aldq X hF g 7 rfl (vp_in_nI (by omega) (by decide)) (v := f i) (by rw [nI_clamp (by omega)]) dX3_holds_22 ?_
          refine lv_aload_n hx hb dX3_holds_23 rfl (lv_at hl 1 rfl) ?_
          refine lv_acmp_ne (rx := (f i)) (ry := (some x)) (tgt := 31) hx hb dX3_holds_24 (by decide) (fun ca2 => ?_) (fun ca2 => ?_)
          · refine lv_iconst (v := 0) hx hb dX3_holds_31 (by decide) ?_
            refine lv_ior hx hb dX3_holds_32 ?_
            refine lv_istore_n (lv' := [(2, .int ((bz (hldN (some x) f i)) ||| 0)), (0, .ref h0), (1, .ref x), (3, .int (nI i))]) hx hb dX3_holds_33 rfl hl (by decide) rfl (fun ls hl => ?_)
            refine lv_iinc (v := nI (i + 1)) (lv' := [(3, .int (nI (i + 1))), (2, .int ((bz (hldN (some x) f i)) ||| 0)), (0, .ref h0), (1, .ref x)]) hx hb dX3_holds_34 hl (k := 3) rfl (nI_1 i) (by decide) rfl (fun ls hl => ?_)
            refine lv_goto (tgt := 4) hx hb dX3_holds_37 (by decide) ?_
            have b9 : (f i == some x) = false := beq_eq_false_iff_ne.mpr ca2
            have e9 : (bz (hldN (some x) f i)) ||| 0 = bz (hldN (some x) f (i + 1)) := by rw [show (0 : Int32) = bz false from rfl, i_ior]; simp [hldN, b9]
            rw [e9] at hl
            exact ih (i + 1) (by omega) ls (lv_sub hl [2, 3, 1, 0] rfl)
          · refine lv_iconst (v := 1) hx hb dX3_holds_27 (by decide) ?_
            refine lv_goto (tgt := 32) hx hb dX3_holds_28 (by decide) ?_
            refine lv_ior hx hb dX3_holds_32 ?_
            refine lv_istore_n (lv' := [(2, .int ((bz (hldN (some x) f i)) ||| 1)), (0, .ref h0), (1, .ref x), (3, .int (nI i))]) hx hb dX3_holds_33 rfl hl (by decide) rfl (fun ls hl => ?_)
            refine lv_iinc (v := nI (i + 1)) (lv' := [(3, .int (nI (i + 1))), (2, .int ((bz (hldN (some x) f i)) ||| 1)), (0, .ref h0), (1, .ref x)]) hx hb dX3_holds_34 hl (k := 3) rfl (nI_1 i) (by decide) rfl (fun ls hl => ?_)
            refine lv_goto (tgt := 4) hx hb dX3_holds_37 (by decide) ?_
            have e9 : (bz (hldN (some x) f i)) ||| 1 = bz (hldN (some x) f (i + 1)) := by rw [show (1 : Int32) = bz true from rfl, i_ior]; simp [hldN, ca2]
            rw [e9] at hl
            exact ih (i + 1) (by omega) ls (lv_sub hl [2, 3, 1, 0] rfl)
    have hl : lv_has ls 4 [(0, .ref h0), (1, .ref x)] := hl
    refine lv_iconst (v := 0) hx hb dX3_holds_0 (by decide) ?_
    refine lv_istore_n (lv' := [(2, .int 0), (0, .ref h0), (1, .ref x)]) hx hb dX3_holds_1 rfl hl (by decide) rfl (fun ls hl => ?_)
    refine lv_iconst (v := 0) hx hb dX3_holds_2 (by decide) ?_
    refine lv_istore_n (lv' := [(3, .int 0), (2, .int 0), (0, .ref h0), (1, .ref x)]) hx hb dX3_holds_3 rfl hl (by decide) rfl (fun ls hl => ?_)
    exact loop N 0 (by omega) ls (lv_sub hl [2, 3, 1, 0] rfl)
set_option maxHeartbeats 4000000 in
set_option maxRecDepth 100000 in
theorem c_X8_hanging (l : Launch) (D : va_G) (cs : Nat → ClassId) (w : fW) (sz : Nat) (ad : Nat → Nat) (T : Sg) (jf : Nat → Nat → Option Nat) (hW : SW cs ad T jf w) (hI : Inv T) (a : Nat) (hA9 : a < 4) : gM l bs_B nw_B D cls10 (tyl cs) yX8_hanging cX8_hanging 4 (some .int) 1 23 0 0 w sz [.ref (ad 0), .ref (ad (10 + a))] (fun v w' => v = some (.int (b2 (hgN T (tSt T a).2.2.1 4) (hgN T (tSt T a).2.2.2.1 4))) ∧ w' = w) := by
  refine gM.of (by decide +kernel) (Nat.le_of_ble_eq_true rfl) (fun p e s m below meth c A ls X hsz hnm hF hS hl => ?_)
  have hx := X.1
  have hb := X.2.1
  have loop : ∀ (n9 i : Nat), i + n9 = 4 → ∀ (H : Heap) (locs : List Loc) (ls : Array Slot), fw_P D cls10 A w H → va_S A s.heap H locs → lv_has ls 4 [(0, .ref (ad 0)), (1, .ref (ad (10 + a))), (2, .int (b2 (hgN T (tSt T a).2.2.1 i) (hgN T (tSt T a).2.2.2.1 i))), (3, .int (nI i))] → W p l e ({ frames := 1, cells := 0, slots := 0, locals := 23 } : Room) s m ([.ref (ad 0), .ref (ad (10 + a))] : List Value).toArray below meth c H locs 0 0 (MQ below (gQ D cls10 A (fun v w' => v = some (.int (b2 (hgN T (tSt T a).2.2.1 4) (hgN T (tSt T a).2.2.2.1 4))) ∧ w' = w)) ([.ref (ad 0), .ref (ad (10 + a))] : List Value).toArray s 0 0 A) (F0 m 4 ls []) := by
    intro n9
    induction n9 with
    | zero =>
      intro i hi H locs ls hF hS hl
      refine lv_iload_n hx hb dX8_hanging_4 rfl (lv_at hl 3 rfl) ?_
      refine lv_iconst (v := 4) hx hb dX8_hanging_5 (by decide) ?_
      refine lv_icmp_ge (tgt := 63) hx hb dX8_hanging_6 (by decide) (fun c6_1 => ?_) (fun c6_1 => ?_)
      · refine lv_iload_n hx hb dX8_hanging_63 rfl (lv_at hl 2 rfl) ?_
        refine fw_iret X hF hS ?_ (Nat.le_of_ble_eq_true rfl) (Nat.le_of_ble_eq_true rfl) dX8_hanging_64
        rw [show i = 4 by omega]
        exact ⟨rfl, rfl⟩
      · exact absurd (show nI 4 ≤ nI i from nI_le (by omega) (by omega)) c6_1
    | succ n9 ih =>
      intro i hi H locs ls hF hS hl
      have hi4 : i < 4 := by omega
      refine lv_iload_n hx hb dX8_hanging_4 rfl (lv_at hl 3 rfl) ?_
      refine lv_iconst (v := 4) hx hb dX8_hanging_5 (by decide) ?_
      refine lv_icmp_ge (tgt := 63) hx hb dX8_hanging_6 (by decide) (fun c6_1 => ?_) (fun c6_1 => ?_)
      · exact absurd (show nI 4 ≤ nI i from c6_1) (nI_ge (by omega) (by decide))
      · refine lv_iload_n hx hb dX8_hanging_9 rfl (lv_at hl 2 rfl) ?_
        refine lv_aload_n hx hb dX8_hanging_10 rfl (lv_at hl 0 rfl) ?_
        refine fw_get X gC_ok hF (hW.2.1) rfl 2 (by decide) wm_178 rfl dX8_hanging_11 ?_
        refine lv_iload_n hx hb dX8_hanging_14 rfl (lv_at hl 3 rfl) ?_
        refine fw_aldq X hF (hW.2.2.2.2.1) 4 rfl (vp_in_nI (by omega) (by decide)) (v := some (ad (22 + i))) (by rw [nI_clamp (by omega)]) dX8_hanging_15 ?_
        refine W.eq (g2 := F0 m 16 ls [.ref (ad (22 + i)), .int (b2 (hgN T (tSt T a).2.2.1 i) (hgN T (tSt T a).2.2.2.1 i))]) rfl ?_
        refine lv_aload_n hx hb dX8_hanging_16 rfl (lv_at hl 1 rfl) ?_
        refine fw_get X gC_ok hF (hW.2.2.2.2.2.2.2.2.2.2.1 a hA9) rfl 2 (by decide) wm_96 rfl dX8_hanging_17 ?_
        refine fw_callV (As := [va_rf ((tSt T a).2.2.1)]) (rest := [.int (b2 (hgN T (tSt T a).2.2.1 i) (hgN T (tSt T a).2.2.2.1 i))]) X bs_all nw_all mf_X3_holds (c_X3_holds l D cs _ _ (ad (22 + i)) (ad (26 + i)) ((tRa T i).1) ((tRa T i).2.1) ((tRa T i).2.2) (hW.2.2.2.2.2.2.2.2.2.2.2.2.2.1 i hi4) (hW.2.2.2.2.2.2.2.2.2.2.2.2.2.2.1 i hi4) ((tSt T a).2.2.1) (hI.2.2.1 i hi4).1) wm_439 wm_440 wm_441 hF hS rfl (hW.2.2.2.2.2.2.2.2.2.2.2.2.2.1 i hi4) rfl rfl ((⟨⟨Nat.le_of_ble_eq_true rfl, Nat.le_of_ble_eq_true rfl⟩, Nat.le_of_ble_eq_true rfl, Nat.le_of_ble_eq_true rfl⟩)) rfl hl.1 rfl (Nat.le_of_ble_eq_true rfl) dX8_hanging_20 (fun v u2 H locs hp hF hS hz1 hk1 hd1 => ?_)
        obtain ⟨rfl, hw1⟩ := hp
        rw [hw1] at hF
        refine W.eq (g2 := F0 m 23 ls [.int (bz (hldN ((tSt T a).2.2.1) ((tRa T i).2.2) (ix ((tRa T i).1)))), .int (b2 (hgN T (tSt T a).2.2.1 i) (hgN T (tSt T a).2.2.2.1 i))]) rfl ?_
        refine gx_ifeq (tgt := 30) hx hb dX8_hanging_23 (by decide) (fun c23_3 => ?_) (fun c23_3 => ?_)
        · refine lv_iconst (v := 0) hx hb dX8_hanging_30 (by decide) ?_
          refine lv_ior hx hb dX8_hanging_31 ?_
          refine lv_istore_n (lv' := [(2, .int ((b2 (hgN T (tSt T a).2.2.1 i) (hgN T (tSt T a).2.2.2.1 i)) ||| 0)), (0, .ref (ad 0)), (1, .ref (ad (10 + a))), (3, .int (nI i))]) hx hb dX8_hanging_32 rfl hl (by decide) rfl (fun ls hl => ?_)
          refine lv_iload_n hx hb dX8_hanging_33 rfl (lv_at hl 0 rfl) ?_
          refine lv_aload_n hx hb dX8_hanging_34 rfl (lv_at hl 1 rfl) ?_
          refine fw_get X gC_ok hF (hW.2.1) rfl 2 (by decide) wm_178 rfl dX8_hanging_35 ?_
          refine lv_iload_n hx hb dX8_hanging_38 rfl (lv_at hl 3 rfl) ?_
          refine fw_aldq X hF (hW.2.2.2.2.1) 4 rfl (vp_in_nI (by omega) (by decide)) (v := some (ad (22 + i))) (by rw [nI_clamp (by omega)]) dX8_hanging_39 ?_
          refine W.eq (g2 := F0 m 40 ls [.ref (ad (22 + i)), .int ((b2 (hgN T (tSt T a).2.2.1 i) (hgN T (tSt T a).2.2.2.1 i)) ||| 0)]) rfl ?_
          refine lv_aload_n hx hb dX8_hanging_40 rfl (lv_at hl 2 rfl) ?_
          refine fw_get X gC_ok hF (hW.2.2.2.2.2.2.2.2.2.2.1 a hA9) rfl 3 (by decide) wm_98 rfl dX8_hanging_41 ?_
          refine fw_callV (As := [va_rf ((tSt T a).2.2.2.1)]) (rest := [.int ((b2 (hgN T (tSt T a).2.2.1 i) (hgN T (tSt T a).2.2.2.1 i)) ||| 0)]) X bs_all nw_all mf_X3_holds (c_X3_holds l D cs _ _ (ad (22 + i)) (ad (26 + i)) ((tRa T i).1) ((tRa T i).2.1) ((tRa T i).2.2) (hW.2.2.2.2.2.2.2.2.2.2.2.2.2.1 i hi4) (hW.2.2.2.2.2.2.2.2.2.2.2.2.2.2.1 i hi4) ((tSt T a).2.2.2.1) (hI.2.2.1 i hi4).1) wm_439 wm_440 wm_441 hF hS rfl (hW.2.2.2.2.2.2.2.2.2.2.2.2.2.1 i hi4) rfl rfl ((⟨⟨Nat.le_of_ble_eq_true rfl, Nat.le_of_ble_eq_true rfl⟩, Nat.le_of_ble_eq_true rfl, Nat.le_of_ble_eq_true rfl⟩)) rfl hl.1 rfl (Nat.le_of_ble_eq_true rfl) dX8_hanging_44 (fun v u4 H locs hp hF hS hz1 hk1 hd1 => ?_)
          obtain ⟨rfl, hw1⟩ := hp
          rw [hw1] at hF
          refine W.eq (g2 := F0 m 47 ls [.int (bz (hldN ((tSt T a).2.2.2.1) ((tRa T i).2.2) (ix ((tRa T i).1)))), .int ((b2 (hgN T (tSt T a).2.2.1 i) (hgN T (tSt T a).2.2.2.1 i)) ||| 0)]) rfl ?_
          refine gx_ifeq (tgt := 54) hx hb dX8_hanging_47 (by decide) (fun c47_5 => ?_) (fun c47_5 => ?_)
          · refine lv_iconst (v := 0) hx hb dX8_hanging_54 (by decide) ?_
            refine lv_ior hx hb dX8_hanging_55 ?_
            refine lv_istore_n (lv' := [(2, .int (((b2 (hgN T (tSt T a).2.2.1 i) (hgN T (tSt T a).2.2.2.1 i)) ||| 0) ||| 0)), (0, .ref (ad 0)), (1, .ref (ad (10 + a))), (3, .int (nI i))]) hx hb dX8_hanging_56 rfl hl (by decide) rfl (fun ls hl => ?_)
            refine lv_iinc (v := nI (i + 1)) (lv' := [(3, .int (nI (i + 1))), (2, .int (((b2 (hgN T (tSt T a).2.2.1 i) (hgN T (tSt T a).2.2.2.1 i)) ||| 0) ||| 0)), (0, .ref (ad 0)), (1, .ref (ad (10 + a)))]) hx hb dX8_hanging_57 hl (k := 3) rfl (nI_1 i) (by decide) rfl (fun ls hl => ?_)
            refine lv_goto (tgt := 4) hx hb dX8_hanging_60 (by decide) ?_
            have e9 : ((b2 (hgN T (tSt T a).2.2.1 i) (hgN T (tSt T a).2.2.2.1 i)) ||| 0) ||| 0 = b2 (hgN T (tSt T a).2.2.1 (i + 1)) (hgN T (tSt T a).2.2.2.1 (i + 1)) := by rw [b2_00]; simp only [hgN, c23_3, c47_5]
            rw [e9] at hl
            exact ih (i + 1) (by omega) H locs ls hF hS (lv_sub hl [2, 3, 1, 0] rfl)
          · refine lv_iconst (v := 2) hx hb dX8_hanging_50 (by decide) ?_
            refine lv_goto (tgt := 55) hx hb dX8_hanging_51 (by decide) ?_
            refine lv_ior hx hb dX8_hanging_55 ?_
            refine lv_istore_n (lv' := [(2, .int (((b2 (hgN T (tSt T a).2.2.1 i) (hgN T (tSt T a).2.2.2.1 i)) ||| 0) ||| 2)), (0, .ref (ad 0)), (1, .ref (ad (10 + a))), (3, .int (nI i))]) hx hb dX8_hanging_56 rfl hl (by decide) rfl (fun ls hl => ?_)
            refine lv_iinc (v := nI (i + 1)) (lv' := [(3, .int (nI (i + 1))), (2, .int (((b2 (hgN T (tSt T a).2.2.1 i) (hgN T (tSt T a).2.2.2.1 i)) ||| 0) ||| 2)), (0, .ref (ad 0)), (1, .ref (ad (10 + a)))]) hx hb dX8_hanging_57 hl (k := 3) rfl (nI_1 i) (by decide) rfl (fun ls hl => ?_)
            refine lv_goto (tgt := 4) hx hb dX8_hanging_60 (by decide) ?_
            have e9 : ((b2 (hgN T (tSt T a).2.2.1 i) (hgN T (tSt T a).2.2.2.1 i)) ||| 0) ||| 2 = b2 (hgN T (tSt T a).2.2.1 (i + 1)) (hgN T (tSt T a).2.2.2.1 (i + 1)) := by rw [b2_01]; simp only [hgN, c23_3, c47_5]
            rw [e9] at hl
            exact ih (i + 1) (by omega) H locs ls hF hS (lv_sub hl [2, 3, 1, 0] rfl)
        · refine lv_iconst (v := 1) hx hb dX8_hanging_26 (by decide) ?_
          refine lv_goto (tgt := 31) hx hb dX8_hanging_27 (by decide) ?_
          refine lv_ior hx hb dX8_hanging_31 ?_
          refine lv_istore_n (lv' := [(2, .int ((b2 (hgN T (tSt T a).2.2.1 i) (hgN T (tSt T a).2.2.2.1 i)) ||| 1)), (0, .ref (ad 0)), (1, .ref (ad (10 + a))), (3, .int (nI i))]) hx hb dX8_hanging_32 rfl hl (by decide) rfl (fun ls hl => ?_)
          refine lv_iload_n hx hb dX8_hanging_33 rfl (lv_at hl 0 rfl) ?_
          refine lv_aload_n hx hb dX8_hanging_34 rfl (lv_at hl 1 rfl) ?_
          refine fw_get X gC_ok hF (hW.2.1) rfl 2 (by decide) wm_178 rfl dX8_hanging_35 ?_
          refine lv_iload_n hx hb dX8_hanging_38 rfl (lv_at hl 3 rfl) ?_
          refine fw_aldq X hF (hW.2.2.2.2.1) 4 rfl (vp_in_nI (by omega) (by decide)) (v := some (ad (22 + i))) (by rw [nI_clamp (by omega)]) dX8_hanging_39 ?_
          refine W.eq (g2 := F0 m 40 ls [.ref (ad (22 + i)), .int ((b2 (hgN T (tSt T a).2.2.1 i) (hgN T (tSt T a).2.2.2.1 i)) ||| 1)]) rfl ?_
          refine lv_aload_n hx hb dX8_hanging_40 rfl (lv_at hl 2 rfl) ?_
          refine fw_get X gC_ok hF (hW.2.2.2.2.2.2.2.2.2.2.1 a hA9) rfl 3 (by decide) wm_98 rfl dX8_hanging_41 ?_
          refine fw_callV (As := [va_rf ((tSt T a).2.2.2.1)]) (rest := [.int ((b2 (hgN T (tSt T a).2.2.1 i) (hgN T (tSt T a).2.2.2.1 i)) ||| 1)]) X bs_all nw_all mf_X3_holds (c_X3_holds l D cs _ _ (ad (22 + i)) (ad (26 + i)) ((tRa T i).1) ((tRa T i).2.1) ((tRa T i).2.2) (hW.2.2.2.2.2.2.2.2.2.2.2.2.2.1 i hi4) (hW.2.2.2.2.2.2.2.2.2.2.2.2.2.2.1 i hi4) ((tSt T a).2.2.2.1) (hI.2.2.1 i hi4).1) wm_439 wm_440 wm_441 hF hS rfl (hW.2.2.2.2.2.2.2.2.2.2.2.2.2.1 i hi4) rfl rfl ((⟨⟨Nat.le_of_ble_eq_true rfl, Nat.le_of_ble_eq_true rfl⟩, Nat.le_of_ble_eq_true rfl, Nat.le_of_ble_eq_true rfl⟩)) rfl hl.1 rfl (Nat.le_of_ble_eq_true rfl) dX8_hanging_44 (fun v u6 H locs hp hF hS hz1 hk1 hd1 => ?_)
          obtain ⟨rfl, hw1⟩ := hp
          rw [hw1] at hF
          refine W.eq (g2 := F0 m 47 ls [.int (bz (hldN ((tSt T a).2.2.2.1) ((tRa T i).2.2) (ix ((tRa T i).1)))), .int ((b2 (hgN T (tSt T a).2.2.1 i) (hgN T (tSt T a).2.2.2.1 i)) ||| 1)]) rfl ?_
          refine gx_ifeq (tgt := 54) hx hb dX8_hanging_47 (by decide) (fun c47_7 => ?_) (fun c47_7 => ?_)
          · refine lv_iconst (v := 0) hx hb dX8_hanging_54 (by decide) ?_
            refine lv_ior hx hb dX8_hanging_55 ?_
            refine lv_istore_n (lv' := [(2, .int (((b2 (hgN T (tSt T a).2.2.1 i) (hgN T (tSt T a).2.2.2.1 i)) ||| 1) ||| 0)), (0, .ref (ad 0)), (1, .ref (ad (10 + a))), (3, .int (nI i))]) hx hb dX8_hanging_56 rfl hl (by decide) rfl (fun ls hl => ?_)
            refine lv_iinc (v := nI (i + 1)) (lv' := [(3, .int (nI (i + 1))), (2, .int (((b2 (hgN T (tSt T a).2.2.1 i) (hgN T (tSt T a).2.2.2.1 i)) ||| 1) ||| 0)), (0, .ref (ad 0)), (1, .ref (ad (10 + a)))]) hx hb dX8_hanging_57 hl (k := 3) rfl (nI_1 i) (by decide) rfl (fun ls hl => ?_)
            refine lv_goto (tgt := 4) hx hb dX8_hanging_60 (by decide) ?_
            have e9 : ((b2 (hgN T (tSt T a).2.2.1 i) (hgN T (tSt T a).2.2.2.1 i)) ||| 1) ||| 0 = b2 (hgN T (tSt T a).2.2.1 (i + 1)) (hgN T (tSt T a).2.2.2.1 (i + 1)) := by rw [b2_10]; simp only [hgN, c23_3, c47_7]
            rw [e9] at hl
            exact ih (i + 1) (by omega) H locs ls hF hS (lv_sub hl [2, 3, 1, 0] rfl)
          · refine lv_iconst (v := 2) hx hb dX8_hanging_50 (by decide) ?_
            refine lv_goto (tgt := 55) hx hb dX8_hanging_51 (by decide) ?_
            refine lv_ior hx hb dX8_hanging_55 ?_
            refine lv_istore_n (lv' := [(2, .int (((b2 (hgN T (tSt T a).2.2.1 i) (hgN T (tSt T a).2.2.2.1 i)) ||| 1) ||| 2)), (0, .ref (ad 0)), (1, .ref (ad (10 + a))), (3, .int (nI i))]) hx hb dX8_hanging_56 rfl hl (by decide) rfl (fun ls hl => ?_)
            refine lv_iinc (v := nI (i + 1)) (lv' := [(3, .int (nI (i + 1))), (2, .int (((b2 (hgN T (tSt T a).2.2.1 i) (hgN T (tSt T a).2.2.2.1 i)) ||| 1) ||| 2)), (0, .ref (ad 0)), (1, .ref (ad (10 + a)))]) hx hb dX8_hanging_57 hl (k := 3) rfl (nI_1 i) (by decide) rfl (fun ls hl => ?_)
            refine lv_goto (tgt := 4) hx hb dX8_hanging_60 (by decide) ?_
            have e9 : ((b2 (hgN T (tSt T a).2.2.1 i) (hgN T (tSt T a).2.2.2.1 i)) ||| 1) ||| 2 = b2 (hgN T (tSt T a).2.2.1 (i + 1)) (hgN T (tSt T a).2.2.2.1 (i + 1)) := by rw [b2_11]; simp only [hgN, c23_3, c47_7]
            rw [e9] at hl
            exact ih (i + 1) (by omega) H locs ls hF hS (lv_sub hl [2, 3, 1, 0] rfl)
  have hl : lv_has ls 4 [(0, .ref (ad 0)), (1, .ref (ad (10 + a)))] := hl
  refine lv_iconst (v := 0) hx hb dX8_hanging_0 (by decide) ?_
  refine lv_istore_n (lv' := [(2, .int 0), (0, .ref (ad 0)), (1, .ref (ad (10 + a)))]) hx hb dX8_hanging_1 rfl hl (by decide) rfl (fun ls hl => ?_)
  refine lv_iconst (v := 0) hx hb dX8_hanging_2 (by decide) ?_
  refine lv_istore_n (lv' := [(3, .int 0), (2, .int 0), (0, .ref (ad 0)), (1, .ref (ad (10 + a)))]) hx hb dX8_hanging_3 rfl hl (by decide) rfl (fun ls hl => ?_)
  refine loop 4 0 (by omega) _ _ ls hF hS ?_
  rw [show b2 (hgN T (tSt T a).2.2.1 0) (hgN T (tSt T a).2.2.2.1 0) = 0 from by simp only [hgN]; decide]
  exact (lv_sub hl [2, 3, 1, 0] rfl)
set_option maxHeartbeats 4000000 in
set_option maxRecDepth 100000 in
theorem c_X8_stand (l : Launch) (D : va_G) (cs : Nat → ClassId) (w : fW) (sz : Nat) (ad : Nat → Nat) (T : Sg) (jf : Nat → Nat → Option Nat) (hW : SW cs ad T jf w) (hI : Inv T) (a k : Int32) : gM l bs_B nw_B D cls10 (tyl cs) yX8_stand cX8_stand 3 (some .int) 2 46 0 0 w sz [.ref (ad 0), .int a, .int k] (fun v w' => v = some (.int (spStand T a k)) ∧ w' = w) := by
  refine gM.of (by decide +kernel) (Nat.le_of_ble_eq_true rfl) (fun p e s m below meth c A ls X hsz hnm hF hS hl => ?_)
  have hx := X.1
  have hb := X.2.1
  have hl : lv_has ls 3 [(0, .ref (ad 0)), (1, .int a), (2, .int k)] := hl
  refine lv_iload_n hx hb dX8_stand_0 rfl (lv_at hl 1 rfl) ?_
  refine lv_iconst (v := 4) hx hb dX8_stand_1 (by decide) ?_
  refine fw_callS (As := [.int a, .int 4]) (rest := []) X bs_all nw_all mf_X8_isWithin (c_X8_isWithin l D cs _ _ a 4) wm_208 wm_209 hF hS rfl ((⟨⟨Nat.le_of_ble_eq_true rfl, Nat.le_of_ble_eq_true rfl⟩, Nat.le_of_ble_eq_true rfl, Nat.le_of_ble_eq_true rfl⟩)) rfl hl.1 rfl (Nat.le_of_ble_eq_true rfl) dX8_stand_2 (fun v u1 H locs hp hF hS hz1 hk1 hd1 => ?_)
  obtain ⟨rfl, hw1⟩ := hp
  rw [hw1] at hF
  refine W.eq (g2 := F0 m 5 ls [.int (bz (wi a 4))]) rfl ?_
  refine gx_ifeq (tgt := 17) hx hb dX8_stand_5 (by decide) (fun c5_2 => ?_) (fun c5_2 => ?_)
  · refine lv_ldc (v := (-2147483648)) hx hb X.2.2.2.1 (X.2.2.2.2.1 _ wm_434) dX8_stand_17 ?_
    refine fw_iret X hF hS ?_ (Nat.le_of_ble_eq_true rfl) (Nat.le_of_ble_eq_true rfl) dX8_stand_19
    exact ⟨by simp [spStand, c5_2], rfl⟩
  · have hA9 : ix a < 4 := wi_lt c5_2 (N := 4) (by decide)
    refine lv_iload_n hx hb dX8_stand_8 rfl (lv_at hl 2 rfl) ?_
    refine lv_bipush (v := 8) hx hb dX8_stand_9 (by decide) ?_
    refine fw_callS (As := [.int k, .int 8]) (rest := []) X bs_all nw_all mf_X8_isWithin (c_X8_isWithin l D cs _ _ k 8) wm_208 wm_209 hF hS rfl ((⟨⟨Nat.le_of_ble_eq_true rfl, Nat.le_of_ble_eq_true rfl⟩, Nat.le_of_ble_eq_true rfl, Nat.le_of_ble_eq_true rfl⟩)) rfl hl.1 rfl (Nat.le_of_ble_eq_true rfl) dX8_stand_11 (fun v u3 H locs hp hF hS hz1 hk1 hd1 => ?_)
    obtain ⟨rfl, hw1⟩ := hp
    rw [hw1] at hF
    refine W.eq (g2 := F0 m 14 ls [.int (bz (wi k 8))]) rfl ?_
    refine gx_ifne (tgt := 20) hx hb dX8_stand_14 (by decide) (fun c14_4 => ?_) (fun c14_4 => ?_)
    · refine lv_iload_n hx hb dX8_stand_20 rfl (lv_at hl 2 rfl) ?_
      refine lv_bipush (v := 6) hx hb dX8_stand_21 (by decide) ?_
      refine lv_icmp_ne (tgt := 39) hx hb dX8_stand_23 (by decide) (fun c23_5 => ?_) (fun c23_5 => ?_)
      · refine lv_aload_n hx hb dX8_stand_39 rfl (lv_at hl 0 rfl) ?_
        refine fw_get X gC_ok hF (hW.2.1) rfl 0 (by decide) wm_176 rfl dX8_stand_40 ?_
        refine lv_iload_n hx hb dX8_stand_43 rfl (lv_at hl 1 rfl) ?_
        refine fw_aldq X hF (hW.2.2.1) 2 rfl (wi_in c5_2 (N := 4) (by decide)) (v := some (ad (10 + (ix a)))) rfl dX8_stand_44 ?_
        refine W.eq (g2 := F0 m 45 ls [.ref (ad (10 + (ix a)))]) rfl ?_
        refine lv_iload_n hx hb dX8_stand_45 rfl (lv_at hl 2 rfl) ?_
        refine fw_callV (As := [.int k]) (rest := []) X bs_all nw_all mf_X5_tell (c_X5_tell l D cs _ _ (ad (10 + (ix a))) ((tSt T (ix a)).1) ((tSt T (ix a)).2.1) ((tSt T (ix a)).2.2.1) ((tSt T (ix a)).2.2.2.1) ((tSt T (ix a)).2.2.2.2.1) ((tSt T (ix a)).2.2.2.2.2) (hW.2.2.2.2.2.2.2.2.2.2.1 (ix a) hA9) k (W9 T) (fun q hq => hW.whl ((hI.1 _ hA9).1 q hq)) (fun q hq => hW.whl ((hI.1 _ hA9).2.1 q hq))) wm_443 wm_444 wm_445 hF hS rfl (hW.2.2.2.2.2.2.2.2.2.2.1 (ix a) hA9) rfl rfl ((⟨⟨Nat.le_of_ble_eq_true rfl, Nat.le_of_ble_eq_true rfl⟩, Nat.le_of_ble_eq_true rfl, Nat.le_of_ble_eq_true rfl⟩)) rfl hl.1 rfl (Nat.le_of_ble_eq_true rfl) dX8_stand_46 (fun v u6 H locs hp hF hS hz1 hk1 hd1 => ?_)
        obtain ⟨rfl, hw1⟩ := hp
        rw [hw1] at hF
        refine W.eq (g2 := F0 m 49 ls [.int (spTell (W9 T) (tSt T (ix a)) k)]) rfl ?_
        refine fw_iret X hF hS ?_ (Nat.le_of_ble_eq_true rfl) (Nat.le_of_ble_eq_true rfl) dX8_stand_49
        refine ⟨?_, rfl⟩
        unfold spStand
        rw [if_pos c5_2, if_pos c14_4]
        first | rw [if_pos c23_5] | rw [if_neg c23_5]
      · refine lv_aload_n hx hb dX8_stand_26 rfl (lv_at hl 0 rfl) ?_
        refine lv_aload_n hx hb dX8_stand_27 rfl (lv_at hl 0 rfl) ?_
        refine fw_get X gC_ok hF (hW.2.1) rfl 0 (by decide) wm_176 rfl dX8_stand_28 ?_
        refine lv_iload_n hx hb dX8_stand_31 rfl (lv_at hl 1 rfl) ?_
        refine fw_aldq X hF (hW.2.2.1) 2 rfl (wi_in c5_2 (N := 4) (by decide)) (v := some (ad (10 + (ix a)))) rfl dX8_stand_32 ?_
        refine W.eq (g2 := F0 m 33 ls [.ref (ad (10 + (ix a))), .ref (ad 0)]) rfl ?_
        refine fw_callV (As := [.ref (ad (10 + (ix a)))]) (rest := []) X bs_all nw_all mf_X8_hanging (c_X8_hanging l D cs _ _ ad T jf hW hI (ix a) hA9) wm_435 wm_437 wm_6 hF hS rfl (hW.2.1) rfl rfl ((⟨⟨Nat.le_of_ble_eq_true rfl, Nat.le_of_ble_eq_true rfl⟩, Nat.le_of_ble_eq_true rfl, Nat.le_of_ble_eq_true rfl⟩)) rfl hl.1 rfl (Nat.le_of_ble_eq_true rfl) dX8_stand_33 (fun v u7 H locs hp hF hS hz1 hk1 hd1 => ?_)
        obtain ⟨rfl, hw1⟩ := hp
        rw [hw1] at hF
        refine W.eq (g2 := F0 m 36 ls [.int (b2 (hgN T (tSt T (ix a)).2.2.1 4) (hgN T (tSt T (ix a)).2.2.2.1 4))]) rfl ?_
        refine lv_goto (tgt := 49) hx hb dX8_stand_36 (by decide) ?_
        refine fw_iret X hF hS ?_ (Nat.le_of_ble_eq_true rfl) (Nat.le_of_ble_eq_true rfl) dX8_stand_49
        refine ⟨?_, rfl⟩
        unfold spStand
        rw [if_pos c5_2, if_pos c14_4]
        first | rw [if_pos c23_5] | rw [if_neg c23_5]
    · refine lv_ldc (v := (-2147483648)) hx hb X.2.2.2.1 (X.2.2.2.2.1 _ wm_434) dX8_stand_17 ?_
      refine fw_iret X hF hS ?_ (Nat.le_of_ble_eq_true rfl) (Nat.le_of_ble_eq_true rfl) dX8_stand_19
      exact ⟨by simp [spStand, c5_2, c14_4], rfl⟩
set_option maxHeartbeats 4000000 in
set_option maxRecDepth 100000 in
theorem c_X8_clear (l : Launch) (D : va_G) (cs : Nat → ClassId) (w : fW) (sz : Nat) (ad : Nat → Nat) (T : Sg) (jf : Nat → Nat → Option Nat) (hW : SW cs ad T jf w) (j : Int32) : gM l bs_B nw_B D cls10 (tyl cs) yX8_clear cX8_clear 2 (some .int) 1 21 0 0 w sz [.ref (ad 0), .int j] (fun v w' => (wi j 4 = true ∧ v = some (.int (tJo T (ix j)).1) ∧ SW cs ad (setJo T (ix j) (0, (tJo T (ix j)).2)) jf w') ∨ (wi j 4 = false ∧ v = some (.int (-2)) ∧ w' = w)) := by
  refine gM.of (by decide +kernel) (Nat.le_of_ble_eq_true rfl) (fun p e s m below meth c A ls X hsz hnm hF hS hl => ?_)
  have hx := X.1
  have hb := X.2.1
  have hl : lv_has ls 2 [(0, .ref (ad 0)), (1, .int j)] := hl
  refine lv_iload_n hx hb dX8_clear_0 rfl (lv_at hl 1 rfl) ?_
  refine lv_iconst (v := 4) hx hb dX8_clear_1 (by decide) ?_
  refine fw_callS (As := [.int j, .int 4]) (rest := []) X bs_all nw_all mf_X8_isWithin (c_X8_isWithin l D cs _ _ j 4) wm_208 wm_209 hF hS rfl ((⟨⟨Nat.le_of_ble_eq_true rfl, Nat.le_of_ble_eq_true rfl⟩, Nat.le_of_ble_eq_true rfl, Nat.le_of_ble_eq_true rfl⟩)) rfl hl.1 rfl (Nat.le_of_ble_eq_true rfl) dX8_clear_2 (fun v u1 H locs hp hF hS hz1 hk1 hd1 => ?_)
  obtain ⟨rfl, hw1⟩ := hp
  rw [hw1] at hF
  refine W.eq (g2 := F0 m 5 ls [.int (bz (wi j 4))]) rfl ?_
  refine gx_ifeq (tgt := 20) hx hb dX8_clear_5 (by decide) (fun c5_2 => ?_) (fun c5_2 => ?_)
  · refine lv_bipush (v := (-2)) hx hb dX8_clear_20 (by decide) ?_
    refine fw_iret X hF hS ?_ (Nat.le_of_ble_eq_true rfl) (Nat.le_of_ble_eq_true rfl) dX8_clear_22
    exact Or.inr ⟨c5_2, rfl, rfl⟩
  · have hA9 : ix j < 4 := wi_lt c5_2 (N := 4) (by decide)
    refine lv_aload_n hx hb dX8_clear_8 rfl (lv_at hl 0 rfl) ?_
    refine fw_get X gC_ok hF (hW.2.1) rfl 4 (by decide) wm_180 rfl dX8_clear_9 ?_
    refine lv_iload_n hx hb dX8_clear_12 rfl (lv_at hl 1 rfl) ?_
    refine fw_aldq X hF (hW.2.2.2.2.2.2.1) 6 rfl (wi_in c5_2 (N := 4) (by decide)) (v := some (ad (38 + (ix j)))) rfl dX8_clear_13 ?_
    refine W.eq (g2 := F0 m 14 ls [.ref (ad (38 + (ix j)))]) rfl ?_
    refine fw_callV (As := []) (rest := []) X bs_all nw_all mf_X2_empty (c_X2_empty l D cs _ _ (ad (38 + (ix j))) (ad (42 + (ix j))) ((tJo T (ix j)).1) (jf (ix j)) (hW.2.2.2.2.2.2.2.2.2.2.2.2.2.2.2.2.2.1 (ix j) hA9) (hW.2.2.2.2.2.2.2.2.2.2.2.2.2.2.2.2.2.2.1 (ix j) hA9)) wm_385 wm_386 wm_387 hF hS rfl (hW.2.2.2.2.2.2.2.2.2.2.2.2.2.2.2.2.2.1 (ix j) hA9) rfl rfl ((⟨⟨Nat.le_of_ble_eq_true rfl, Nat.le_of_ble_eq_true rfl⟩, Nat.le_of_ble_eq_true rfl, Nat.le_of_ble_eq_true rfl⟩)) rfl hl.1 rfl (Nat.le_of_ble_eq_true rfl) dX8_clear_14 (fun v u3 H locs hp hF hS hz1 hk1 hd1 => ?_)
    obtain ⟨rfl, hw1⟩ := hp
    rw [hw1] at hF
    refine W.eq (g2 := F0 m 17 ls [.int ((tJo T (ix j)).1)]) rfl ?_
    refine lv_goto (tgt := 22) hx hb dX8_clear_17 (by decide) ?_
    refine fw_iret X hF hS ?_ (Nat.le_of_ble_eq_true rfl) (Nat.le_of_ble_eq_true rfl) dX8_clear_22
    exact Or.inl ⟨c5_2, rfl, hW.joE hA9⟩
