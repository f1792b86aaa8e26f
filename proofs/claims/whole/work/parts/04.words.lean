/-- the words that a state keeps, of all the tables: every contract of mine asks for all of them -/
def bs_B : List Cond := lw_tbl.filter goodWord
theorem bs_in {x : Cond} {i : Nat} (h : lw_tbl[i]? = some x) (g : goodWord x = true) : x ∈ bs_B := List.mem_filter.mpr ⟨List.mem_of_getElem? h, g⟩
theorem bs_all : bs_B.all goodWord = true := List.all_eq_true.mpr (fun _ h => (List.mem_filter.mp h).2)
theorem bs_tbl {x : Cond} (h : x ∈ bs_B) : x ∈ lw_tbl := (List.mem_filter.mp h).1
def nw_B : List Cond := lw_tbl.filter gnest
theorem nw_in {x : Cond} {i : Nat} (h : lw_tbl[i]? = some x) (g : gnest x = true) : x ∈ nw_B := List.mem_filter.mpr ⟨List.mem_of_getElem? h, g⟩
theorem nw_all : nw_B.all gnest = true := List.all_eq_true.mpr (fun _ h => (List.mem_filter.mp h).2)
abbrev cls10 : List vw_C := [(RX0, TX0, 2), (RX1, TX1, 3), (RX2, TX2, 2), (RX3, TX3, 3), (RX4, TX4, 6), (RX5, TX5, 6), (RX6, TX6, 5), (RX7, TX7, 3), (RX8, TX8, 8), (RX9, TX9, 28)]
theorem bs_X0 : ∀ x ∈ u_ws RX0 TX0 2, x ∈ bs_B := fun x h => List.mem_filter.mpr ⟨(show ∀ x ∈ u_ws RX0 TX0 2, x ∈ lw_tbl by decide +kernel) x h, List.all_eq_true.mp (show (u_ws RX0 TX0 2).all goodWord = true by decide +kernel) x h⟩
theorem bs_X1 : ∀ x ∈ u_ws RX1 TX1 3, x ∈ bs_B := fun x h => List.mem_filter.mpr ⟨(show ∀ x ∈ u_ws RX1 TX1 3, x ∈ lw_tbl by decide +kernel) x h, List.all_eq_true.mp (show (u_ws RX1 TX1 3).all goodWord = true by decide +kernel) x h⟩
theorem bs_X2 : ∀ x ∈ u_ws RX2 TX2 2, x ∈ bs_B := fun x h => List.mem_filter.mpr ⟨(show ∀ x ∈ u_ws RX2 TX2 2, x ∈ lw_tbl by decide +kernel) x h, List.all_eq_true.mp (show (u_ws RX2 TX2 2).all goodWord = true by decide +kernel) x h⟩
theorem bs_X3 : ∀ x ∈ u_ws RX3 TX3 3, x ∈ bs_B := fun x h => List.mem_filter.mpr ⟨(show ∀ x ∈ u_ws RX3 TX3 3, x ∈ lw_tbl by decide +kernel) x h, List.all_eq_true.mp (show (u_ws RX3 TX3 3).all goodWord = true by decide +kernel) x h⟩
theorem bs_X4 : ∀ x ∈ u_ws RX4 TX4 6, x ∈ bs_B := fun x h => List.mem_filter.mpr ⟨(show ∀ x ∈ u_ws RX4 TX4 6, x ∈ lw_tbl by decide +kernel) x h, List.all_eq_true.mp (show (u_ws RX4 TX4 6).all goodWord = true by decide +kernel) x h⟩
theorem bs_X5 : ∀ x ∈ u_ws RX5 TX5 6, x ∈ bs_B := fun x h => List.mem_filter.mpr ⟨(show ∀ x ∈ u_ws RX5 TX5 6, x ∈ lw_tbl by decide +kernel) x h, List.all_eq_true.mp (show (u_ws RX5 TX5 6).all goodWord = true by decide +kernel) x h⟩
theorem bs_X6 : ∀ x ∈ u_ws RX6 TX6 5, x ∈ bs_B := fun x h => List.mem_filter.mpr ⟨(show ∀ x ∈ u_ws RX6 TX6 5, x ∈ lw_tbl by decide +kernel) x h, List.all_eq_true.mp (show (u_ws RX6 TX6 5).all goodWord = true by decide +kernel) x h⟩
theorem bs_X7 : ∀ x ∈ u_ws RX7 TX7 3, x ∈ bs_B := fun x h => List.mem_filter.mpr ⟨(show ∀ x ∈ u_ws RX7 TX7 3, x ∈ lw_tbl by decide +kernel) x h, List.all_eq_true.mp (show (u_ws RX7 TX7 3).all goodWord = true by decide +kernel) x h⟩
theorem bs_X8 : ∀ x ∈ u_ws RX8 TX8 8, x ∈ bs_B := fun x h => List.mem_filter.mpr ⟨(show ∀ x ∈ u_ws RX8 TX8 8, x ∈ lw_tbl by decide +kernel) x h, List.all_eq_true.mp (show (u_ws RX8 TX8 8).all goodWord = true by decide +kernel) x h⟩
theorem bs_X9 : ∀ x ∈ u_ws RX9 TX9 28, x ∈ bs_B := fun x h => List.mem_filter.mpr ⟨(show ∀ x ∈ u_ws RX9 TX9 28, x ∈ lw_tbl by decide +kernel) x h, List.all_eq_true.mp (show (u_ws RX9 TX9 28).all goodWord = true by decide +kernel) x h⟩
theorem gC_ok : gC cls10 bs_B := by
  intro ci C T N h
  match ci, h with
  | 0, h => cases h; exact ⟨bs_X0, ⟨tyX0, tyX0_ok⟩, nmX0⟩
  | 1, h => cases h; exact ⟨bs_X1, ⟨tyX1, tyX1_ok⟩, nmX1⟩
  | 2, h => cases h; exact ⟨bs_X2, ⟨tyX2, tyX2_ok⟩, nmX2⟩
  | 3, h => cases h; exact ⟨bs_X3, ⟨tyX3, tyX3_ok⟩, nmX3⟩
  | 4, h => cases h; exact ⟨bs_X4, ⟨tyX4, tyX4_ok⟩, nmX4⟩
  | 5, h => cases h; exact ⟨bs_X5, ⟨tyX5, tyX5_ok⟩, nmX5⟩
  | 6, h => cases h; exact ⟨bs_X6, ⟨tyX6, tyX6_ok⟩, nmX6⟩
  | 7, h => cases h; exact ⟨bs_X7, ⟨tyX7, tyX7_ok⟩, nmX7⟩
  | 8, h => cases h; exact ⟨bs_X8, ⟨tyX8, tyX8_ok⟩, nmX8⟩
  | 9, h => cases h; exact ⟨bs_X9, ⟨tyX9, tyX9_ok⟩, nmX9⟩
  | k + 10, h => simp [cls10] at h
abbrev tyl (cs : Nat → ClassId) : List (ClassId × FieldType) := [(cs 0, .int), (cs 1, .boolean), (cs 2, .object "CycleShop$Stand"), (cs 3, .object "CycleShop$Basket"), (cs 4, .object "CycleShop$Rack"), (cs 5, .object "CycleShop$Grid"), (cs 6, .object "CycleShop$Job"), (cs 7, .object "CycleShop$Wheel"), (cs 8, .object "CycleShop$Step")]
theorem wm_0 : Cond.selects "CycleShop" ⟨"CycleShop", "attempt", "(IIII)J"⟩ ⟨"CycleShop", "attempt", "(IIII)J"⟩ ∈ bs_B := bs_in (i := 0) rfl rfl
theorem wm_1 : Cond.selects "CycleShop" ⟨"CycleShop", "perform", "(IIII)J"⟩ ⟨"CycleShop", "perform", "(IIII)J"⟩ ∈ bs_B := bs_in (i := 1) rfl rfl
theorem wm_2 : Cond.selects "CycleShop" ⟨"CycleShop", "measure", "(III)J"⟩ ⟨"CycleShop", "measure", "(III)J"⟩ ∈ bs_B := bs_in (i := 2) rfl rfl
theorem wm_3 : Cond.selects "CycleShop" ⟨"CycleShop", "excuse", "(II)J"⟩ ⟨"CycleShop", "excuse", "(II)J"⟩ ∈ bs_B := bs_in (i := 3) rfl rfl
theorem wm_4 : Cond.selects "CycleShop" ⟨"CycleShop", "isDone", "(LCycleShop$Job;I)Z"⟩ ⟨"CycleShop", "isDone", "(LCycleShop$Job;I)Z"⟩ ∈ bs_B := bs_in (i := 4) rfl rfl
theorem wm_5 : Cond.selects "CycleShop" ⟨"CycleShop", "isDoneInStead", "(LCycleShop$Job;I)Z"⟩ ⟨"CycleShop", "isDoneInStead", "(LCycleShop$Job;I)Z"⟩ ∈ bs_B := bs_in (i := 5) rfl rfl
theorem wm_6 : Cond.selects "CycleShop" ⟨"CycleShop", "hanging", "(LCycleShop$Stand;)I"⟩ ⟨"CycleShop", "hanging", "(LCycleShop$Stand;)I"⟩ ∈ bs_B := bs_in (i := 6) rfl rfl
theorem wm_7 : Cond.selects "CycleShopModel" ⟨"CycleShopModel", "does", "(IIII)V"⟩ ⟨"CycleShopModel", "does", "(IIII)V"⟩ ∈ bs_B := bs_in (i := 7) rfl rfl
theorem wm_8 : Cond.selects "CycleShopModel" ⟨"CycleShopModel", "build", "(II)V"⟩ ⟨"CycleShopModel", "build", "(II)V"⟩ ∈ bs_B := bs_in (i := 8) rfl rfl
theorem wm_9 : Cond.selects "CycleShopModel" ⟨"CycleShopModel", "strip", "(I)V"⟩ ⟨"CycleShopModel", "strip", "(I)V"⟩ ∈ bs_B := bs_in (i := 9) rfl rfl
theorem wm_10 : Cond.selects "CycleShopModel" ⟨"CycleShopModel", "fit", "(III)V"⟩ ⟨"CycleShopModel", "fit", "(III)V"⟩ ∈ bs_B := bs_in (i := 10) rfl rfl
theorem wm_11 : Cond.selects "CycleShopModel" ⟨"CycleShopModel", "fails", "(I)V"⟩ ⟨"CycleShopModel", "fails", "(I)V"⟩ ∈ bs_B := bs_in (i := 11) rfl rfl
theorem wm_12 : Cond.selects "CycleShopModel" ⟨"CycleShopModel", "newWheel", "(I)I"⟩ ⟨"CycleShopModel", "newWheel", "(I)I"⟩ ∈ bs_B := bs_in (i := 12) rfl rfl
theorem wm_13 : Cond.selects "CycleShopModel" ⟨"CycleShopModel", "isUsed", "(I)Z"⟩ ⟨"CycleShopModel", "isUsed", "(I)Z"⟩ ∈ bs_B := bs_in (i := 13) rfl rfl
theorem wm_14 : Cond.selects "CycleShopModel" ⟨"CycleShopModel", "turn", "(IIZ)V"⟩ ⟨"CycleShopModel", "turn", "(IIZ)V"⟩ ∈ bs_B := bs_in (i := 14) rfl rfl
theorem wm_15 : Cond.selects "CycleShopModel" ⟨"CycleShopModel", "light", "(III)V"⟩ ⟨"CycleShopModel", "light", "(III)V"⟩ ∈ bs_B := bs_in (i := 15) rfl rfl
theorem wm_16 : Cond.selects "CycleShopModel" ⟨"CycleShopModel", "shine", "(II)V"⟩ ⟨"CycleShopModel", "shine", "(II)V"⟩ ∈ bs_B := bs_in (i := 16) rfl rfl
theorem wm_17 : Cond.selects "CycleShopModel" ⟨"CycleShopModel", "make", "(IIII)V"⟩ ⟨"CycleShopModel", "make", "(IIII)V"⟩ ∈ bs_B := bs_in (i := 17) rfl rfl
theorem wm_18 : Cond.selects "CycleShopModel" ⟨"CycleShopModel", "measure", "(III)V"⟩ ⟨"CycleShopModel", "measure", "(III)V"⟩ ∈ bs_B := bs_in (i := 18) rfl rfl
theorem wm_19 : Cond.selects "CycleShopModel" ⟨"CycleShopModel", "has", "(II)Z"⟩ ⟨"CycleShopModel", "has", "(II)Z"⟩ ∈ bs_B := bs_in (i := 19) rfl rfl
theorem wm_20 : Cond.selects "CycleShopModel" ⟨"CycleShopModel", "hang", "(III)V"⟩ ⟨"CycleShopModel", "hang", "(III)V"⟩ ∈ bs_B := bs_in (i := 20) rfl rfl
theorem wm_21 : Cond.selects "CycleShopModel" ⟨"CycleShopModel", "balance", "(II)V"⟩ ⟨"CycleShopModel", "balance", "(II)V"⟩ ∈ bs_B := bs_in (i := 21) rfl rfl
theorem wm_22 : Cond.selects "CycleShopModel" ⟨"CycleShopModel", "goes", "(II)V"⟩ ⟨"CycleShopModel", "goes", "(II)V"⟩ ∈ bs_B := bs_in (i := 22) rfl rfl
theorem wm_23 : Cond.selects "CycleShopModel" ⟨"CycleShopModel", "hangs", "(I)Z"⟩ ⟨"CycleShopModel", "hangs", "(I)Z"⟩ ∈ bs_B := bs_in (i := 23) rfl rfl
theorem wm_24 : (Cond.initialized "CycleShopLaw") ∈ bs_B := bs_in (i := 24) rfl rfl
theorem wm_25 : (Cond.initialized "CycleShop") ∈ bs_B := bs_in (i := 25) rfl rfl
theorem wm_26 : (Cond.initialized "CycleShop$Report") ∈ bs_B := bs_in (i := 26) rfl rfl
theorem wm_27 : (Cond.initialized "CycleShop$Stand") ∈ bs_B := bs_in (i := 27) rfl rfl
theorem wm_28 : (Cond.initialized "CycleShop$Basket") ∈ bs_B := bs_in (i := 28) rfl rfl
theorem wm_29 : (Cond.initialized "CycleShop$Rack") ∈ bs_B := bs_in (i := 29) rfl rfl
theorem wm_30 : (Cond.initialized "CycleShop$Grid") ∈ bs_B := bs_in (i := 30) rfl rfl
theorem wm_31 : (Cond.initialized "CycleShop$Job") ∈ bs_B := bs_in (i := 31) rfl rfl
theorem wm_32 : (Cond.initialized "CycleShopModel") ∈ bs_B := bs_in (i := 32) rfl rfl
theorem wm_33 : (Cond.initialized "CycleShop$Wheel") ∈ bs_B := bs_in (i := 33) rfl rfl
theorem wm_34 : (Cond.initialized "java/util/Arrays") ∈ bs_B := bs_in (i := 34) rfl rfl
theorem wm_35 : (Cond.initialized "CycleShop$Step") ∈ bs_B := bs_in (i := 35) rfl rfl
theorem wm_36 : (Cond.classLink "CycleShopLaw" (7 : Nat) "CycleShop") ∈ bs_B := bs_in (i := 36) rfl rfl
theorem wm_37 : (Cond.instantiable "CycleShop" (8 : Nat)) ∈ bs_B := bs_in (i := 37) rfl rfl
theorem wm_38 : (Cond.methodLink "CycleShopLaw" (9 : Nat) ({ cls := "CycleShop", name := "<init>", desc := "()V" } : MethodName)) ∈ bs_B := bs_in (i := 38) rfl rfl
theorem wm_39 : (Cond.instanceMethod ({ cls := "CycleShop", name := "<init>", desc := "()V" } : MethodName)) ∈ bs_B := bs_in (i := 39) rfl rfl
theorem wm_40 : (Cond.code ({ cls := "CycleShop", name := "<init>", desc := "()V" } : MethodName) prog_1_method_1_code (2 : Nat) (Option.none : Option FieldType)) ∈ bs_B := bs_in (i := 40) rfl rfl
theorem wm_41 : (Cond.methodLink "CycleShop" (1 : Nat) ({ cls := "java/lang/Object", name := "<init>", desc := "()V" } : MethodName)) ∈ bs_B := bs_in (i := 41) rfl rfl
theorem wm_42 : (Cond.instanceMethod ({ cls := "java/lang/Object", name := "<init>", desc := "()V" } : MethodName)) ∈ bs_B := bs_in (i := 42) rfl rfl
theorem wm_43 : (Cond.code ({ cls := "java/lang/Object", name := "<init>", desc := "()V" } : MethodName) object_method_1_code (1 : Nat) (Option.none : Option FieldType)) ∈ bs_B := bs_in (i := 43) rfl rfl
theorem wm_44 : (Cond.classLink "CycleShop" (9 : Nat) "CycleShop$Stand") ∈ bs_B := bs_in (i := 44) rfl rfl
theorem nm_45 : (Cond.arrayOver (FieldType.object "CycleShop$Stand")) ∈ nw_B := nw_in (i := 45) rfl rfl
theorem wm_46 : (Cond.classLink "CycleShop" (15 : Nat) "CycleShop$Basket") ∈ bs_B := bs_in (i := 46) rfl rfl
theorem nm_47 : (Cond.arrayOver (FieldType.object "CycleShop$Basket")) ∈ nw_B := nw_in (i := 47) rfl rfl
theorem wm_48 : (Cond.classLink "CycleShop" (21 : Nat) "CycleShop$Rack") ∈ bs_B := bs_in (i := 48) rfl rfl
theorem nm_49 : (Cond.arrayOver (FieldType.object "CycleShop$Rack")) ∈ nw_B := nw_in (i := 49) rfl rfl
theorem wm_50 : (Cond.classLink "CycleShop" (27 : Nat) "CycleShop$Grid") ∈ bs_B := bs_in (i := 50) rfl rfl
theorem nm_51 : (Cond.arrayOver (FieldType.object "CycleShop$Grid")) ∈ nw_B := nw_in (i := 51) rfl rfl
theorem wm_52 : (Cond.classLink "CycleShop" (33 : Nat) "CycleShop$Job") ∈ bs_B := bs_in (i := 52) rfl rfl
theorem nm_53 : (Cond.arrayOver (FieldType.object "CycleShop$Job")) ∈ nw_B := nw_in (i := 53) rfl rfl
theorem wm_54 : (Cond.classLink "CycleShop" (46 : Nat) "CycleShop$Report") ∈ bs_B := bs_in (i := 54) rfl rfl
theorem wm_55 : (Cond.instantiable "CycleShop$Report" (6 : Nat)) ∈ bs_B := bs_in (i := 55) rfl rfl
theorem nm_56 : (Cond.methodLinkNest "CycleShop" (48 : Nat) ({ cls := "CycleShop$Report", name := "<init>", desc := "()V" } : MethodName) "CycleShop") ∈ nw_B := nw_in (i := 56) rfl rfl
theorem wm_57 : (Cond.instanceMethod ({ cls := "CycleShop$Report", name := "<init>", desc := "()V" } : MethodName)) ∈ bs_B := bs_in (i := 57) rfl rfl
theorem wm_58 : (Cond.code ({ cls := "CycleShop$Report", name := "<init>", desc := "()V" } : MethodName) prog_6_method_1_code (1 : Nat) (Option.none : Option FieldType)) ∈ bs_B := bs_in (i := 58) rfl rfl
theorem wm_59 : (Cond.methodLink "CycleShop$Report" (3 : Nat) ({ cls := "java/lang/Object", name := "<init>", desc := "()V" } : MethodName)) ∈ bs_B := bs_in (i := 59) rfl rfl
theorem wm_60 : (Cond.fieldLink "CycleShop$Report" (15 : Nat) "CycleShop$Report" "done" "I") ∈ bs_B := bs_in (i := 60) rfl rfl
theorem wm_61 : (Cond.fieldLink "CycleShop" (99 : Nat) "CycleShop$Report" "done" "I") ∈ bs_B := bs_in (i := 61) rfl rfl
theorem wm_62 : (Cond.fieldLink "CycleShop$Report" (18 : Nat) "CycleShop$Report" "failed" "I") ∈ bs_B := bs_in (i := 62) rfl rfl
theorem wm_63 : (Cond.fieldLink "CycleShop" (102 : Nat) "CycleShop$Report" "failed" "I") ∈ bs_B := bs_in (i := 63) rfl rfl
theorem wm_64 : (Cond.fieldLink "CycleShop$Report" (21 : Nat) "CycleShop$Report" "reason" "I") ∈ bs_B := bs_in (i := 64) rfl rfl
theorem wm_65 : (Cond.fieldLink "CycleShop" (105 : Nat) "CycleShop$Report" "reason" "I") ∈ bs_B := bs_in (i := 65) rfl rfl
theorem wm_66 : (Cond.fieldLink "CycleShop$Report" (9 : Nat) "CycleShop$Report" "reasonStep" "I") ∈ bs_B := bs_in (i := 66) rfl rfl
theorem wm_67 : (Cond.fieldLink "CycleShop" (108 : Nat) "CycleShop$Report" "reasonStep" "I") ∈ bs_B := bs_in (i := 67) rfl rfl
theorem wm_68 : (Cond.fieldLink "CycleShop$Report" (24 : Nat) "CycleShop$Report" "steads" "I") ∈ bs_B := bs_in (i := 68) rfl rfl
theorem wm_69 : (Cond.fieldLink "CycleShop" (111 : Nat) "CycleShop$Report" "steads" "I") ∈ bs_B := bs_in (i := 69) rfl rfl
theorem wm_70 : (Cond.fieldLink "CycleShop$Report" (27 : Nat) "CycleShop$Report" "sum" "J") ∈ bs_B := bs_in (i := 70) rfl rfl
theorem wm_71 : (Cond.fieldLink "CycleShop" (114 : Nat) "CycleShop$Report" "sum" "J") ∈ bs_B := bs_in (i := 71) rfl rfl
theorem wm_85 : (Cond.arrayClass FieldType.int) ∈ bs_B := bs_in (i := 85) rfl rfl
theorem wm_86 : (Cond.instantiable "CycleShop$Stand" (6 : Nat)) ∈ bs_B := bs_in (i := 86) rfl rfl
theorem nm_87 : (Cond.methodLinkNest "CycleShop" (53 : Nat) ({ cls := "CycleShop$Stand", name := "<init>", desc := "()V" } : MethodName) "CycleShop") ∈ nw_B := nw_in (i := 87) rfl rfl
theorem wm_88 : (Cond.instanceMethod ({ cls := "CycleShop$Stand", name := "<init>", desc := "()V" } : MethodName)) ∈ bs_B := bs_in (i := 88) rfl rfl
theorem wm_89 : (Cond.code ({ cls := "CycleShop$Stand", name := "<init>", desc := "()V" } : MethodName) prog_7_method_1_code (1 : Nat) (Option.none : Option FieldType)) ∈ bs_B := bs_in (i := 89) rfl rfl
theorem wm_90 : (Cond.methodLink "CycleShop$Stand" (3 : Nat) ({ cls := "java/lang/Object", name := "<init>", desc := "()V" } : MethodName)) ∈ bs_B := bs_in (i := 90) rfl rfl
theorem wm_91 : (Cond.fieldLink "CycleShop$Stand" (15 : Nat) "CycleShop$Stand" "hasBike" "Z") ∈ bs_B := bs_in (i := 91) rfl rfl
theorem wm_92 : (Cond.fieldLink "CycleShop$Rack" (29 : Nat) "CycleShop$Stand" "hasBike" "Z") ∈ bs_B := bs_in (i := 92) rfl rfl
theorem wm_93 : (Cond.fieldLink "CycleShop$Stand" (19 : Nat) "CycleShop$Stand" "frame" "I") ∈ bs_B := bs_in (i := 93) rfl rfl
theorem wm_94 : (Cond.fieldLink "CycleShop$Stand" (23 : Nat) "CycleShop$Stand" "front" "LCycleShop$Wheel;") ∈ bs_B := bs_in (i := 94) rfl rfl
theorem wm_95 : (Cond.fieldLink "CycleShop$Rack" (38 : Nat) "CycleShop$Stand" "front" "LCycleShop$Wheel;") ∈ bs_B := bs_in (i := 95) rfl rfl
theorem wm_96 : (Cond.fieldLink "CycleShop" (246 : Nat) "CycleShop$Stand" "front" "LCycleShop$Wheel;") ∈ bs_B := bs_in (i := 96) rfl rfl
theorem wm_97 : (Cond.fieldLink "CycleShop$Stand" (27 : Nat) "CycleShop$Stand" "rear" "LCycleShop$Wheel;") ∈ bs_B := bs_in (i := 97) rfl rfl
theorem wm_98 : (Cond.fieldLink "CycleShop" (254 : Nat) "CycleShop$Stand" "rear" "LCycleShop$Wheel;") ∈ bs_B := bs_in (i := 98) rfl rfl
theorem wm_99 : (Cond.fieldLink "CycleShop$Stand" (30 : Nat) "CycleShop$Stand" "lamp" "I") ∈ bs_B := bs_in (i := 99) rfl rfl
theorem wm_100 : (Cond.fieldLink "CycleShop$Stand" (33 : Nat) "CycleShop$Stand" "charge" "I") ∈ bs_B := bs_in (i := 100) rfl rfl
theorem wm_114 : (Cond.instantiable "CycleShop$Basket" (2 : Nat)) ∈ bs_B := bs_in (i := 114) rfl rfl
theorem nm_115 : (Cond.methodLinkNest "CycleShop" (54 : Nat) ({ cls := "CycleShop$Basket", name := "<init>", desc := "()V" } : MethodName) "CycleShop") ∈ nw_B := nw_in (i := 115) rfl rfl
theorem wm_116 : (Cond.instanceMethod ({ cls := "CycleShop$Basket", name := "<init>", desc := "()V" } : MethodName)) ∈ bs_B := bs_in (i := 116) rfl rfl
theorem wm_117 : (Cond.code ({ cls := "CycleShop$Basket", name := "<init>", desc := "()V" } : MethodName) prog_2_method_1_code (1 : Nat) (Option.none : Option FieldType)) ∈ bs_B := bs_in (i := 117) rfl rfl
theorem wm_118 : (Cond.methodLink "CycleShop$Basket" (3 : Nat) ({ cls := "java/lang/Object", name := "<init>", desc := "()V" } : MethodName)) ∈ bs_B := bs_in (i := 118) rfl rfl
theorem wm_119 : (Cond.fieldLink "CycleShop$Basket" (9 : Nat) "CycleShop$Basket" "numbers" "[I") ∈ bs_B := bs_in (i := 119) rfl rfl
theorem wm_120 : (Cond.fieldLink "CycleShop$Basket" (15 : Nat) "CycleShop$Basket" "length" "I") ∈ bs_B := bs_in (i := 120) rfl rfl
theorem wm_121 : (Cond.fieldLink "CycleShop" (206 : Nat) "CycleShop$Basket" "length" "I") ∈ bs_B := bs_in (i := 121) rfl rfl
theorem wm_127 : (Cond.instantiable "CycleShop$Rack" (3 : Nat)) ∈ bs_B := bs_in (i := 127) rfl rfl
theorem nm_128 : (Cond.methodLinkNest "CycleShop" (55 : Nat) ({ cls := "CycleShop$Rack", name := "<init>", desc := "()V" } : MethodName) "CycleShop") ∈ nw_B := nw_in (i := 128) rfl rfl
theorem wm_129 : (Cond.instanceMethod ({ cls := "CycleShop$Rack", name := "<init>", desc := "()V" } : MethodName)) ∈ bs_B := bs_in (i := 129) rfl rfl
theorem wm_130 : (Cond.code ({ cls := "CycleShop$Rack", name := "<init>", desc := "()V" } : MethodName) prog_5_method_1_code (1 : Nat) (Option.none : Option FieldType)) ∈ bs_B := bs_in (i := 130) rfl rfl
theorem wm_131 : (Cond.methodLink "CycleShop$Rack" (3 : Nat) ({ cls := "java/lang/Object", name := "<init>", desc := "()V" } : MethodName)) ∈ bs_B := bs_in (i := 131) rfl rfl
theorem wm_132 : (Cond.classLink "CycleShop$Rack" (9 : Nat) "CycleShop$Wheel") ∈ bs_B := bs_in (i := 132) rfl rfl
theorem nm_133 : (Cond.arrayOver (FieldType.object "CycleShop$Wheel")) ∈ nw_B := nw_in (i := 133) rfl rfl
theorem wm_134 : (Cond.fieldLink "CycleShop$Rack" (11 : Nat) "CycleShop$Rack" "places" "[LCycleShop$Wheel;") ∈ bs_B := bs_in (i := 134) rfl rfl
theorem wm_135 : (Cond.fieldLink "CycleShop$Rack" (17 : Nat) "CycleShop$Rack" "length" "I") ∈ bs_B := bs_in (i := 135) rfl rfl
theorem wm_136 : (Cond.fieldLink "CycleShop" (212 : Nat) "CycleShop$Rack" "length" "I") ∈ bs_B := bs_in (i := 136) rfl rfl
theorem wm_137 : (Cond.fieldLink "CycleShop$Rack" (25 : Nat) "CycleShop$Rack" "isForDiscs" "Z") ∈ bs_B := bs_in (i := 137) rfl rfl
theorem wm_145 : (Cond.instantiable "CycleShop$Grid" (3 : Nat)) ∈ bs_B := bs_in (i := 145) rfl rfl
theorem nm_146 : (Cond.methodLinkNest "CycleShop" (56 : Nat) ({ cls := "CycleShop$Grid", name := "<init>", desc := "()V" } : MethodName) "CycleShop") ∈ nw_B := nw_in (i := 146) rfl rfl
theorem wm_147 : (Cond.instanceMethod ({ cls := "CycleShop$Grid", name := "<init>", desc := "()V" } : MethodName)) ∈ bs_B := bs_in (i := 147) rfl rfl
theorem wm_148 : (Cond.code ({ cls := "CycleShop$Grid", name := "<init>", desc := "()V" } : MethodName) prog_3_method_1_code (1 : Nat) (Option.none : Option FieldType)) ∈ bs_B := bs_in (i := 148) rfl rfl
theorem wm_149 : (Cond.methodLink "CycleShop$Grid" (3 : Nat) ({ cls := "java/lang/Object", name := "<init>", desc := "()V" } : MethodName)) ∈ bs_B := bs_in (i := 149) rfl rfl
theorem wm_150 : (Cond.fieldLink "CycleShop$Grid" (9 : Nat) "CycleShop$Grid" "numbers" "[I") ∈ bs_B := bs_in (i := 150) rfl rfl
theorem wm_151 : (Cond.fieldLink "CycleShop$Grid" (15 : Nat) "CycleShop$Grid" "rows" "I") ∈ bs_B := bs_in (i := 151) rfl rfl
theorem wm_152 : (Cond.fieldLink "CycleShop" (213 : Nat) "CycleShop$Grid" "rows" "I") ∈ bs_B := bs_in (i := 152) rfl rfl
theorem wm_153 : (Cond.fieldLink "CycleShop$Grid" (29 : Nat) "CycleShop$Grid" "columns" "I") ∈ bs_B := bs_in (i := 153) rfl rfl
theorem wm_161 : (Cond.instantiable "CycleShop$Job" (2 : Nat)) ∈ bs_B := bs_in (i := 161) rfl rfl
theorem nm_162 : (Cond.methodLinkNest "CycleShop" (57 : Nat) ({ cls := "CycleShop$Job", name := "<init>", desc := "()V" } : MethodName) "CycleShop") ∈ nw_B := nw_in (i := 162) rfl rfl
theorem wm_163 : (Cond.instanceMethod ({ cls := "CycleShop$Job", name := "<init>", desc := "()V" } : MethodName)) ∈ bs_B := bs_in (i := 163) rfl rfl
theorem wm_164 : (Cond.code ({ cls := "CycleShop$Job", name := "<init>", desc := "()V" } : MethodName) prog_4_method_1_code (1 : Nat) (Option.none : Option FieldType)) ∈ bs_B := bs_in (i := 164) rfl rfl
theorem wm_165 : (Cond.methodLink "CycleShop$Job" (3 : Nat) ({ cls := "java/lang/Object", name := "<init>", desc := "()V" } : MethodName)) ∈ bs_B := bs_in (i := 165) rfl rfl
theorem wm_166 : (Cond.classLink "CycleShop$Job" (9 : Nat) "CycleShop$Step") ∈ bs_B := bs_in (i := 166) rfl rfl
theorem nm_167 : (Cond.arrayOver (FieldType.object "CycleShop$Step")) ∈ nw_B := nw_in (i := 167) rfl rfl
theorem wm_168 : (Cond.fieldLink "CycleShop$Job" (11 : Nat) "CycleShop$Job" "steps" "[LCycleShop$Step;") ∈ bs_B := bs_in (i := 168) rfl rfl
theorem wm_169 : (Cond.fieldLink "CycleShop$Job" (17 : Nat) "CycleShop$Job" "count" "I") ∈ bs_B := bs_in (i := 169) rfl rfl
theorem wm_170 : (Cond.fieldLink "CycleShop" (88 : Nat) "CycleShop$Job" "count" "I") ∈ bs_B := bs_in (i := 170) rfl rfl
theorem wm_176 : (Cond.fieldLink "CycleShop" (11 : Nat) "CycleShop" "stands" "[LCycleShop$Stand;") ∈ bs_B := bs_in (i := 176) rfl rfl
theorem wm_177 : (Cond.fieldLink "CycleShop" (17 : Nat) "CycleShop" "baskets" "[LCycleShop$Basket;") ∈ bs_B := bs_in (i := 177) rfl rfl
theorem wm_178 : (Cond.fieldLink "CycleShop" (23 : Nat) "CycleShop" "racks" "[LCycleShop$Rack;") ∈ bs_B := bs_in (i := 178) rfl rfl
theorem wm_179 : (Cond.fieldLink "CycleShop" (29 : Nat) "CycleShop" "grids" "[LCycleShop$Grid;") ∈ bs_B := bs_in (i := 179) rfl rfl
theorem wm_180 : (Cond.fieldLink "CycleShop" (35 : Nat) "CycleShop" "jobs" "[LCycleShop$Job;") ∈ bs_B := bs_in (i := 180) rfl rfl
theorem wm_181 : (Cond.fieldLink "CycleShop" (39 : Nat) "CycleShop" "excuses" "[I") ∈ bs_B := bs_in (i := 181) rfl rfl
theorem wm_182 : (Cond.fieldLink "CycleShop" (43 : Nat) "CycleShop" "tallies" "[I") ∈ bs_B := bs_in (i := 182) rfl rfl
theorem wm_183 : (Cond.fieldLink "CycleShop" (49 : Nat) "CycleShop" "report" "LCycleShop$Report;") ∈ bs_B := bs_in (i := 183) rfl rfl
theorem wm_201 : (Cond.methodLink "CycleShopLaw" (13 : Nat) ({ cls := "CycleShop", name := "act", desc := "(IIII)J" } : MethodName)) ∈ bs_B := bs_in (i := 201) rfl rfl
theorem wm_202 : (Cond.instanceMethod ({ cls := "CycleShop", name := "act", desc := "(IIII)J" } : MethodName)) ∈ bs_B := bs_in (i := 202) rfl rfl
theorem wm_203 : (Cond.selects "CycleShop" ({ cls := "CycleShop", name := "act", desc := "(IIII)J" } : MethodName) ({ cls := "CycleShop", name := "act", desc := "(IIII)J" } : MethodName)) ∈ bs_B := bs_in (i := 203) rfl rfl
theorem wm_204 : (Cond.code ({ cls := "CycleShop", name := "act", desc := "(IIII)J" } : MethodName) prog_1_method_2_code (5 : Nat) (Option.some FieldType.long)) ∈ bs_B := bs_in (i := 204) rfl rfl
theorem wm_205 : (Cond.methodLink "CycleShop" (58 : Nat) ({ cls := "CycleShop", name := "isStep", desc := "(IIII)Z" } : MethodName)) ∈ bs_B := bs_in (i := 205) rfl rfl
theorem wm_206 : (Cond.static ({ cls := "CycleShop", name := "isStep", desc := "(IIII)Z" } : MethodName)) ∈ bs_B := bs_in (i := 206) rfl rfl
theorem wm_207 : (Cond.code ({ cls := "CycleShop", name := "isStep", desc := "(IIII)Z" } : MethodName) prog_1_method_16_code (4 : Nat) (Option.some FieldType.boolean)) ∈ bs_B := bs_in (i := 207) rfl rfl
theorem wm_208 : (Cond.methodLink "CycleShop" (68 : Nat) ({ cls := "CycleShop", name := "isWithin", desc := "(II)Z" } : MethodName)) ∈ bs_B := bs_in (i := 208) rfl rfl
theorem wm_209 : (Cond.static ({ cls := "CycleShop", name := "isWithin", desc := "(II)Z" } : MethodName)) ∈ bs_B := bs_in (i := 209) rfl rfl
theorem wm_210 : (Cond.code ({ cls := "CycleShop", name := "isWithin", desc := "(II)Z" } : MethodName) prog_1_method_13_code (2 : Nat) (Option.some FieldType.boolean)) ∈ bs_B := bs_in (i := 210) rfl rfl
theorem wm_211 : (Cond.methodLink "CycleShop" (62 : Nat) ({ cls := "CycleShop", name := "attempt", desc := "(IIII)J" } : MethodName)) ∈ bs_B := bs_in (i := 211) rfl rfl
theorem wm_213 : (Cond.instanceMethod ({ cls := "CycleShop", name := "attempt", desc := "(IIII)J" } : MethodName)) ∈ bs_B := bs_in (i := 213) rfl rfl
theorem wm_214 : (Cond.code ({ cls := "CycleShop", name := "attempt", desc := "(IIII)J" } : MethodName) prog_1_method_17_code (8 : Nat) (Option.some FieldType.long)) ∈ bs_B := bs_in (i := 214) rfl rfl
theorem wm_215 : (Cond.methodLink "CycleShop" (144 : Nat) ({ cls := "CycleShop", name := "perform", desc := "(IIII)J" } : MethodName)) ∈ bs_B := bs_in (i := 215) rfl rfl
theorem wm_217 : (Cond.instanceMethod ({ cls := "CycleShop", name := "perform", desc := "(IIII)J" } : MethodName)) ∈ bs_B := bs_in (i := 217) rfl rfl
theorem wm_218 : (Cond.code ({ cls := "CycleShop", name := "perform", desc := "(IIII)J" } : MethodName) prog_1_method_18_code (5 : Nat) (Option.some FieldType.long)) ∈ bs_B := bs_in (i := 218) rfl rfl
theorem wm_219 : (Cond.methodLink "CycleShop" (151 : Nat) ({ cls := "CycleShop$Stand", name := "build", desc := "(I)J" } : MethodName)) ∈ bs_B := bs_in (i := 219) rfl rfl
theorem wm_220 : (Cond.instanceMethod ({ cls := "CycleShop$Stand", name := "build", desc := "(I)J" } : MethodName)) ∈ bs_B := bs_in (i := 220) rfl rfl
theorem wm_221 : (Cond.selects "CycleShop$Stand" ({ cls := "CycleShop$Stand", name := "build", desc := "(I)J" } : MethodName) ({ cls := "CycleShop$Stand", name := "build", desc := "(I)J" } : MethodName)) ∈ bs_B := bs_in (i := 221) rfl rfl
theorem wm_222 : (Cond.code ({ cls := "CycleShop$Stand", name := "build", desc := "(I)J" } : MethodName) prog_7_method_2_code (2 : Nat) (Option.some FieldType.long)) ∈ bs_B := bs_in (i := 222) rfl rfl
theorem wm_223 : (Cond.methodLink "CycleShop$Stand" (9 : Nat) ({ cls := "CycleShop$Stand", name := "strip", desc := "()J" } : MethodName)) ∈ bs_B := bs_in (i := 223) rfl rfl
theorem wm_224 : (Cond.instanceMethod ({ cls := "CycleShop$Stand", name := "strip", desc := "()J" } : MethodName)) ∈ bs_B := bs_in (i := 224) rfl rfl
theorem wm_225 : (Cond.selects "CycleShop$Stand" ({ cls := "CycleShop$Stand", name := "strip", desc := "()J" } : MethodName) ({ cls := "CycleShop$Stand", name := "strip", desc := "()J" } : MethodName)) ∈ bs_B := bs_in (i := 225) rfl rfl
theorem wm_226 : (Cond.code ({ cls := "CycleShop$Stand", name := "strip", desc := "()J" } : MethodName) prog_7_method_3_code (1 : Nat) (Option.some FieldType.long)) ∈ bs_B := bs_in (i := 226) rfl rfl
theorem wm_227 : (Cond.methodLink "CycleShop" (155 : Nat) ({ cls := "CycleShop$Stand", name := "strip", desc := "()J" } : MethodName)) ∈ bs_B := bs_in (i := 227) rfl rfl
theorem wm_228 : (Cond.methodLink "CycleShop" (159 : Nat) ({ cls := "CycleShop$Stand", name := "fit", desc := "(II)J" } : MethodName)) ∈ bs_B := bs_in (i := 228) rfl rfl
theorem wm_229 : (Cond.instanceMethod ({ cls := "CycleShop$Stand", name := "fit", desc := "(II)J" } : MethodName)) ∈ bs_B := bs_in (i := 229) rfl rfl
theorem wm_230 : (Cond.selects "CycleShop$Stand" ({ cls := "CycleShop$Stand", name := "fit", desc := "(II)J" } : MethodName) ({ cls := "CycleShop$Stand", name := "fit", desc := "(II)J" } : MethodName)) ∈ bs_B := bs_in (i := 230) rfl rfl
theorem wm_231 : (Cond.code ({ cls := "CycleShop$Stand", name := "fit", desc := "(II)J" } : MethodName) prog_7_method_5_code (5 : Nat) (Option.some FieldType.long)) ∈ bs_B := bs_in (i := 231) rfl rfl
theorem nm_232 : (Cond.methodLinkNest "CycleShop$Stand" (36 : Nat) ({ cls := "CycleShop", name := "failure", desc := "(I)J" } : MethodName) "CycleShop") ∈ nw_B := nw_in (i := 232) rfl rfl
theorem wm_233 : (Cond.static ({ cls := "CycleShop", name := "failure", desc := "(I)J" } : MethodName)) ∈ bs_B := bs_in (i := 233) rfl rfl
theorem wm_234 : (Cond.code ({ cls := "CycleShop", name := "failure", desc := "(I)J" } : MethodName) prog_1_method_14_code (1 : Nat) (Option.some FieldType.long)) ∈ bs_B := bs_in (i := 234) rfl rfl
theorem wm_235 : (Cond.constantLong "CycleShop" (66 : Nat) (-9223372036854775808 : Int64)) ∈ bs_B := bs_in (i := 235) rfl rfl
theorem wm_236 : (Cond.classLink "CycleShop$Stand" (40 : Nat) "CycleShop$Wheel") ∈ bs_B := bs_in (i := 236) rfl rfl
theorem wm_237 : (Cond.instantiable "CycleShop$Wheel" (3 : Nat)) ∈ bs_B := bs_in (i := 237) rfl rfl
theorem wm_238 : (Cond.methodLink "CycleShop$Stand" (42 : Nat) ({ cls := "CycleShop$Wheel", name := "<init>", desc := "(IZ)V" } : MethodName)) ∈ bs_B := bs_in (i := 238) rfl rfl
theorem wm_239 : (Cond.instanceMethod ({ cls := "CycleShop$Wheel", name := "<init>", desc := "(IZ)V" } : MethodName)) ∈ bs_B := bs_in (i := 239) rfl rfl
theorem wm_240 : (Cond.code ({ cls := "CycleShop$Wheel", name := "<init>", desc := "(IZ)V" } : MethodName) prog_9_method_1_code (3 : Nat) (Option.none : Option FieldType)) ∈ bs_B := bs_in (i := 240) rfl rfl
theorem wm_241 : (Cond.methodLink "CycleShop$Wheel" (1 : Nat) ({ cls := "java/lang/Object", name := "<init>", desc := "()V" } : MethodName)) ∈ bs_B := bs_in (i := 241) rfl rfl
theorem wm_242 : (Cond.fieldLink "CycleShop$Wheel" (7 : Nat) "CycleShop$Wheel" "spokes" "I") ∈ bs_B := bs_in (i := 242) rfl rfl
theorem wm_243 : (Cond.fieldLink "CycleShop$Stand" (53 : Nat) "CycleShop$Wheel" "spokes" "I") ∈ bs_B := bs_in (i := 243) rfl rfl
theorem wm_244 : (Cond.fieldLink "CycleShop$Wheel" (13 : Nat) "CycleShop$Wheel" "isDisc" "Z") ∈ bs_B := bs_in (i := 244) rfl rfl
theorem wm_245 : (Cond.fieldLink "CycleShop$Rack" (42 : Nat) "CycleShop$Wheel" "isDisc" "Z") ∈ bs_B := bs_in (i := 245) rfl rfl
theorem wm_246 : (Cond.fieldLink "CycleShop$Wheel" (17 : Nat) "CycleShop$Wheel" "turns" "I") ∈ bs_B := bs_in (i := 246) rfl rfl
theorem wm_247 : (Cond.fieldLink "CycleShop$Rack" (45 : Nat) "CycleShop$Wheel" "turns" "I") ∈ bs_B := bs_in (i := 247) rfl rfl
theorem wm_248 : (Cond.fieldLink "CycleShop$Stand" (56 : Nat) "CycleShop$Wheel" "turns" "I") ∈ bs_B := bs_in (i := 248) rfl rfl
theorem wm_256 : (Cond.methodLink "CycleShop" (163 : Nat) ({ cls := "CycleShop$Stand", name := "trueWheel", desc := "(I)J" } : MethodName)) ∈ bs_B := bs_in (i := 256) rfl rfl
theorem wm_257 : (Cond.instanceMethod ({ cls := "CycleShop$Stand", name := "trueWheel", desc := "(I)J" } : MethodName)) ∈ bs_B := bs_in (i := 257) rfl rfl
theorem wm_258 : (Cond.selects "CycleShop$Stand" ({ cls := "CycleShop$Stand", name := "trueWheel", desc := "(I)J" } : MethodName) ({ cls := "CycleShop$Stand", name := "trueWheel", desc := "(I)J" } : MethodName)) ∈ bs_B := bs_in (i := 258) rfl rfl
theorem wm_259 : (Cond.code ({ cls := "CycleShop$Stand", name := "trueWheel", desc := "(I)J" } : MethodName) prog_7_method_6_code (3 : Nat) (Option.some FieldType.long)) ∈ bs_B := bs_in (i := 259) rfl rfl
theorem wm_260 : (Cond.methodLink "CycleShop$Stand" (45 : Nat) ({ cls := "CycleShop$Stand", name := "wheel", desc := "(I)LCycleShop$Wheel;" } : MethodName)) ∈ bs_B := bs_in (i := 260) rfl rfl
theorem wm_261 : (Cond.instanceMethod ({ cls := "CycleShop$Stand", name := "wheel", desc := "(I)LCycleShop$Wheel;" } : MethodName)) ∈ bs_B := bs_in (i := 261) rfl rfl
theorem wm_262 : (Cond.selects "CycleShop$Stand" ({ cls := "CycleShop$Stand", name := "wheel", desc := "(I)LCycleShop$Wheel;" } : MethodName) ({ cls := "CycleShop$Stand", name := "wheel", desc := "(I)LCycleShop$Wheel;" } : MethodName)) ∈ bs_B := bs_in (i := 262) rfl rfl
theorem wm_263 : (Cond.code ({ cls := "CycleShop$Stand", name := "wheel", desc := "(I)LCycleShop$Wheel;" } : MethodName) prog_7_method_4_code (2 : Nat) (Option.some (FieldType.object "CycleShop$Wheel"))) ∈ bs_B := bs_in (i := 263) rfl rfl
theorem wm_264 : (Cond.methodLink "CycleShop$Stand" (49 : Nat) ({ cls := "CycleShop$Wheel", name := "turn", desc := "()I" } : MethodName)) ∈ bs_B := bs_in (i := 264) rfl rfl
theorem wm_265 : (Cond.instanceMethod ({ cls := "CycleShop$Wheel", name := "turn", desc := "()I" } : MethodName)) ∈ bs_B := bs_in (i := 265) rfl rfl
theorem wm_266 : (Cond.selects "CycleShop$Wheel" ({ cls := "CycleShop$Wheel", name := "turn", desc := "()I" } : MethodName) ({ cls := "CycleShop$Wheel", name := "turn", desc := "()I" } : MethodName)) ∈ bs_B := bs_in (i := 266) rfl rfl
theorem wm_267 : (Cond.code ({ cls := "CycleShop$Wheel", name := "turn", desc := "()I" } : MethodName) prog_9_method_2_code (1 : Nat) (Option.some FieldType.int)) ∈ bs_B := bs_in (i := 267) rfl rfl
theorem wm_268 : (Cond.methodLink "CycleShop" (166 : Nat) ({ cls := "CycleShop$Stand", name := "countSpokes", desc := "(I)J" } : MethodName)) ∈ bs_B := bs_in (i := 268) rfl rfl
theorem wm_269 : (Cond.instanceMethod ({ cls := "CycleShop$Stand", name := "countSpokes", desc := "(I)J" } : MethodName)) ∈ bs_B := bs_in (i := 269) rfl rfl
theorem wm_270 : (Cond.selects "CycleShop$Stand" ({ cls := "CycleShop$Stand", name := "countSpokes", desc := "(I)J" } : MethodName) ({ cls := "CycleShop$Stand", name := "countSpokes", desc := "(I)J" } : MethodName)) ∈ bs_B := bs_in (i := 270) rfl rfl
theorem wm_271 : (Cond.code ({ cls := "CycleShop$Stand", name := "countSpokes", desc := "(I)J" } : MethodName) prog_7_method_7_code (3 : Nat) (Option.some FieldType.long)) ∈ bs_B := bs_in (i := 271) rfl rfl
theorem wm_272 : (Cond.methodLink "CycleShop" (169 : Nat) ({ cls := "CycleShop$Stand", name := "light", desc := "(II)J" } : MethodName)) ∈ bs_B := bs_in (i := 272) rfl rfl
theorem wm_273 : (Cond.instanceMethod ({ cls := "CycleShop$Stand", name := "light", desc := "(II)J" } : MethodName)) ∈ bs_B := bs_in (i := 273) rfl rfl
theorem wm_274 : (Cond.selects "CycleShop$Stand" ({ cls := "CycleShop$Stand", name := "light", desc := "(II)J" } : MethodName) ({ cls := "CycleShop$Stand", name := "light", desc := "(II)J" } : MethodName)) ∈ bs_B := bs_in (i := 274) rfl rfl
theorem wm_275 : (Cond.code ({ cls := "CycleShop$Stand", name := "light", desc := "(II)J" } : MethodName) prog_7_method_8_code (3 : Nat) (Option.some FieldType.long)) ∈ bs_B := bs_in (i := 275) rfl rfl
theorem wm_276 : (Cond.methodLink "CycleShop" (172 : Nat) ({ cls := "CycleShop$Stand", name := "shine", desc := "(I)J" } : MethodName)) ∈ bs_B := bs_in (i := 276) rfl rfl
theorem wm_277 : (Cond.instanceMethod ({ cls := "CycleShop$Stand", name := "shine", desc := "(I)J" } : MethodName)) ∈ bs_B := bs_in (i := 277) rfl rfl
theorem wm_278 : (Cond.selects "CycleShop$Stand" ({ cls := "CycleShop$Stand", name := "shine", desc := "(I)J" } : MethodName) ({ cls := "CycleShop$Stand", name := "shine", desc := "(I)J" } : MethodName)) ∈ bs_B := bs_in (i := 278) rfl rfl
theorem wm_279 : (Cond.code ({ cls := "CycleShop$Stand", name := "shine", desc := "(I)J" } : MethodName) prog_7_method_9_code (2 : Nat) (Option.some FieldType.long)) ∈ bs_B := bs_in (i := 279) rfl rfl
theorem wm_280 : (Cond.methodLink "CycleShop" (175 : Nat) ({ cls := "CycleShop$Basket", name := "make", desc := "(I)J" } : MethodName)) ∈ bs_B := bs_in (i := 280) rfl rfl
theorem wm_281 : (Cond.instanceMethod ({ cls := "CycleShop$Basket", name := "make", desc := "(I)J" } : MethodName)) ∈ bs_B := bs_in (i := 281) rfl rfl
theorem wm_282 : (Cond.selects "CycleShop$Basket" ({ cls := "CycleShop$Basket", name := "make", desc := "(I)J" } : MethodName) ({ cls := "CycleShop$Basket", name := "make", desc := "(I)J" } : MethodName)) ∈ bs_B := bs_in (i := 282) rfl rfl
theorem wm_283 : (Cond.code ({ cls := "CycleShop$Basket", name := "make", desc := "(I)J" } : MethodName) prog_2_method_2_code (2 : Nat) (Option.some FieldType.long)) ∈ bs_B := bs_in (i := 283) rfl rfl
theorem nm_284 : (Cond.methodLinkNest "CycleShop$Basket" (19 : Nat) ({ cls := "CycleShop", name := "failure", desc := "(I)J" } : MethodName) "CycleShop") ∈ nw_B := nw_in (i := 284) rfl rfl
theorem wm_285 : (Cond.methodLink "CycleShop$Basket" (23 : Nat) ({ cls := "java/util/Arrays", name := "fill", desc := "([II)V" } : MethodName)) ∈ bs_B := bs_in (i := 285) rfl rfl
theorem wm_286 : (Cond.static ({ cls := "java/util/Arrays", name := "fill", desc := "([II)V" } : MethodName)) ∈ bs_B := bs_in (i := 286) rfl rfl
theorem wm_287 : (Cond.code ({ cls := "java/util/Arrays", name := "fill", desc := "([II)V" } : MethodName) prog_12_method_103_code (4 : Nat) (Option.none : Option FieldType)) ∈ bs_B := bs_in (i := 287) rfl rfl
theorem wm_288 : (Cond.methodLink "CycleShop" (178 : Nat) ({ cls := "CycleShop$Rack", name := "make", desc := "(IZ)J" } : MethodName)) ∈ bs_B := bs_in (i := 288) rfl rfl
theorem wm_289 : (Cond.instanceMethod ({ cls := "CycleShop$Rack", name := "make", desc := "(IZ)J" } : MethodName)) ∈ bs_B := bs_in (i := 289) rfl rfl
theorem wm_290 : (Cond.selects "CycleShop$Rack" ({ cls := "CycleShop$Rack", name := "make", desc := "(IZ)J" } : MethodName) ({ cls := "CycleShop$Rack", name := "make", desc := "(IZ)J" } : MethodName)) ∈ bs_B := bs_in (i := 290) rfl rfl
theorem wm_291 : (Cond.code ({ cls := "CycleShop$Rack", name := "make", desc := "(IZ)J" } : MethodName) prog_5_method_2_code (4 : Nat) (Option.some FieldType.long)) ∈ bs_B := bs_in (i := 291) rfl rfl
theorem nm_292 : (Cond.methodLinkNest "CycleShop$Rack" (21 : Nat) ({ cls := "CycleShop", name := "failure", desc := "(I)J" } : MethodName) "CycleShop") ∈ nw_B := nw_in (i := 292) rfl rfl
theorem wm_293 : (Cond.methodLink "CycleShop" (181 : Nat) ({ cls := "CycleShop$Grid", name := "make", desc := "(II)J" } : MethodName)) ∈ bs_B := bs_in (i := 293) rfl rfl
theorem wm_294 : (Cond.instanceMethod ({ cls := "CycleShop$Grid", name := "make", desc := "(II)J" } : MethodName)) ∈ bs_B := bs_in (i := 294) rfl rfl
theorem wm_295 : (Cond.selects "CycleShop$Grid" ({ cls := "CycleShop$Grid", name := "make", desc := "(II)J" } : MethodName) ({ cls := "CycleShop$Grid", name := "make", desc := "(II)J" } : MethodName)) ∈ bs_B := bs_in (i := 295) rfl rfl
theorem wm_296 : (Cond.code ({ cls := "CycleShop$Grid", name := "make", desc := "(II)J" } : MethodName) prog_3_method_2_code (3 : Nat) (Option.some FieldType.long)) ∈ bs_B := bs_in (i := 296) rfl rfl
theorem nm_297 : (Cond.methodLinkNest "CycleShop$Grid" (19 : Nat) ({ cls := "CycleShop", name := "failure", desc := "(I)J" } : MethodName) "CycleShop") ∈ nw_B := nw_in (i := 297) rfl rfl
theorem wm_298 : (Cond.methodLink "CycleShop$Grid" (23 : Nat) ({ cls := "java/util/Arrays", name := "fill", desc := "([II)V" } : MethodName)) ∈ bs_B := bs_in (i := 298) rfl rfl
theorem wm_299 : (Cond.methodLink "CycleShop" (183 : Nat) ({ cls := "CycleShop", name := "measure", desc := "(III)J" } : MethodName)) ∈ bs_B := bs_in (i := 299) rfl rfl
set_option maxRecDepth 20000 in
theorem wm_301 : (Cond.instanceMethod ({ cls := "CycleShop", name := "measure", desc := "(III)J" } : MethodName)) ∈ bs_B := bs_in (i := 301) rfl rfl
set_option maxRecDepth 20000 in
theorem wm_302 : (Cond.code ({ cls := "CycleShop", name := "measure", desc := "(III)J" } : MethodName) prog_1_method_19_code (4 : Nat) (Option.some FieldType.long)) ∈ bs_B := bs_in (i := 302) rfl rfl
set_option maxRecDepth 20000 in
theorem wm_303 : (Cond.methodLink "CycleShop" (209 : Nat) ({ cls := "CycleShop", name := "lengthOrFailure", desc := "(I)J" } : MethodName)) ∈ bs_B := bs_in (i := 303) rfl rfl
set_option maxRecDepth 20000 in
theorem wm_304 : (Cond.static ({ cls := "CycleShop", name := "lengthOrFailure", desc := "(I)J" } : MethodName)) ∈ bs_B := bs_in (i := 304) rfl rfl
set_option maxRecDepth 20000 in
theorem wm_305 : (Cond.code ({ cls := "CycleShop", name := "lengthOrFailure", desc := "(I)J" } : MethodName) prog_1_method_20_code (1 : Nat) (Option.some FieldType.long)) ∈ bs_B := bs_in (i := 305) rfl rfl
set_option maxRecDepth 20000 in
theorem wm_306 : (Cond.methodLink "CycleShop" (203 : Nat) ({ cls := "CycleShop", name := "failure", desc := "(I)J" } : MethodName)) ∈ bs_B := bs_in (i := 306) rfl rfl
set_option maxRecDepth 20000 in
theorem wm_307 : (Cond.methodLink "CycleShop" (216 : Nat) ({ cls := "CycleShop$Grid", name := "rowLength", desc := "(I)J" } : MethodName)) ∈ bs_B := bs_in (i := 307) rfl rfl
set_option maxRecDepth 20000 in
theorem wm_308 : (Cond.instanceMethod ({ cls := "CycleShop$Grid", name := "rowLength", desc := "(I)J" } : MethodName)) ∈ bs_B := bs_in (i := 308) rfl rfl
set_option maxRecDepth 20000 in
theorem wm_309 : (Cond.selects "CycleShop$Grid" ({ cls := "CycleShop$Grid", name := "rowLength", desc := "(I)J" } : MethodName) ({ cls := "CycleShop$Grid", name := "rowLength", desc := "(I)J" } : MethodName)) ∈ bs_B := bs_in (i := 309) rfl rfl
set_option maxRecDepth 20000 in
theorem wm_310 : (Cond.code ({ cls := "CycleShop$Grid", name := "rowLength", desc := "(I)J" } : MethodName) prog_3_method_4_code (2 : Nat) (Option.some FieldType.long)) ∈ bs_B := bs_in (i := 310) rfl rfl
set_option maxRecDepth 20000 in
theorem nm_311 : (Cond.methodLinkNest "CycleShop$Grid" (32 : Nat) ({ cls := "CycleShop", name := "isWithin", desc := "(II)Z" } : MethodName) "CycleShop") ∈ nw_B := nw_in (i := 311) rfl rfl
set_option maxRecDepth 20000 in
theorem wm_312 : (Cond.methodLink "CycleShop" (187 : Nat) ({ cls := "CycleShop$Basket", name := "put", desc := "(II)J" } : MethodName)) ∈ bs_B := bs_in (i := 312) rfl rfl
set_option maxRecDepth 20000 in
theorem wm_313 : (Cond.instanceMethod ({ cls := "CycleShop$Basket", name := "put", desc := "(II)J" } : MethodName)) ∈ bs_B := bs_in (i := 313) rfl rfl
set_option maxRecDepth 20000 in
theorem wm_314 : (Cond.selects "CycleShop$Basket" ({ cls := "CycleShop$Basket", name := "put", desc := "(II)J" } : MethodName) ({ cls := "CycleShop$Basket", name := "put", desc := "(II)J" } : MethodName)) ∈ bs_B := bs_in (i := 314) rfl rfl
set_option maxRecDepth 20000 in
theorem wm_315 : (Cond.code ({ cls := "CycleShop$Basket", name := "put", desc := "(II)J" } : MethodName) prog_2_method_3_code (4 : Nat) (Option.some FieldType.long)) ∈ bs_B := bs_in (i := 315) rfl rfl
set_option maxRecDepth 20000 in
theorem nm_316 : (Cond.methodLinkNest "CycleShop$Basket" (29 : Nat) ({ cls := "CycleShop", name := "isWithin", desc := "(II)Z" } : MethodName) "CycleShop") ∈ nw_B := nw_in (i := 316) rfl rfl
set_option maxRecDepth 20000 in
theorem wm_317 : (Cond.methodLink "CycleShop" (190 : Nat) ({ cls := "CycleShop$Grid", name := "addOne", desc := "(II)J" } : MethodName)) ∈ bs_B := bs_in (i := 317) rfl rfl
set_option maxRecDepth 20000 in
theorem wm_318 : (Cond.instanceMethod ({ cls := "CycleShop$Grid", name := "addOne", desc := "(II)J" } : MethodName)) ∈ bs_B := bs_in (i := 318) rfl rfl
set_option maxRecDepth 20000 in
theorem wm_319 : (Cond.selects "CycleShop$Grid" ({ cls := "CycleShop$Grid", name := "addOne", desc := "(II)J" } : MethodName) ({ cls := "CycleShop$Grid", name := "addOne", desc := "(II)J" } : MethodName)) ∈ bs_B := bs_in (i := 319) rfl rfl
set_option maxRecDepth 20000 in
theorem wm_320 : (Cond.code ({ cls := "CycleShop$Grid", name := "addOne", desc := "(II)J" } : MethodName) prog_3_method_5_code (4 : Nat) (Option.some FieldType.long)) ∈ bs_B := bs_in (i := 320) rfl rfl
set_option maxRecDepth 20000 in
theorem wm_321 : (Cond.methodLink "CycleShop$Grid" (36 : Nat) ({ cls := "CycleShop$Grid", name := "has", desc := "(II)Z" } : MethodName)) ∈ bs_B := bs_in (i := 321) rfl rfl
set_option maxRecDepth 20000 in
theorem wm_322 : (Cond.instanceMethod ({ cls := "CycleShop$Grid", name := "has", desc := "(II)Z" } : MethodName)) ∈ bs_B := bs_in (i := 322) rfl rfl
set_option maxRecDepth 20000 in
theorem wm_323 : (Cond.selects "CycleShop$Grid" ({ cls := "CycleShop$Grid", name := "has", desc := "(II)Z" } : MethodName) ({ cls := "CycleShop$Grid", name := "has", desc := "(II)Z" } : MethodName)) ∈ bs_B := bs_in (i := 323) rfl rfl
set_option maxRecDepth 20000 in
theorem wm_324 : (Cond.code ({ cls := "CycleShop$Grid", name := "has", desc := "(II)Z" } : MethodName) prog_3_method_3_code (3 : Nat) (Option.some FieldType.boolean)) ∈ bs_B := bs_in (i := 324) rfl rfl
set_option maxRecDepth 20000 in
theorem wm_325 : (Cond.methodLink "CycleShop" (193 : Nat) ({ cls := "CycleShop$Rack", name := "hang", desc := "(ILCycleShop$Stand;)J" } : MethodName)) ∈ bs_B := bs_in (i := 325) rfl rfl
set_option maxRecDepth 20000 in
theorem wm_326 : (Cond.instanceMethod ({ cls := "CycleShop$Rack", name := "hang", desc := "(ILCycleShop$Stand;)J" } : MethodName)) ∈ bs_B := bs_in (i := 326) rfl rfl
set_option maxRecDepth 20000 in
theorem wm_327 : (Cond.selects "CycleShop$Rack" ({ cls := "CycleShop$Rack", name := "hang", desc := "(ILCycleShop$Stand;)J" } : MethodName) ({ cls := "CycleShop$Rack", name := "hang", desc := "(ILCycleShop$Stand;)J" } : MethodName)) ∈ bs_B := bs_in (i := 327) rfl rfl
set_option maxRecDepth 20000 in
theorem wm_328 : (Cond.code ({ cls := "CycleShop$Rack", name := "hang", desc := "(ILCycleShop$Stand;)J" } : MethodName) prog_5_method_3_code (4 : Nat) (Option.some FieldType.long)) ∈ bs_B := bs_in (i := 328) rfl rfl
set_option maxRecDepth 20000 in
theorem nm_329 : (Cond.methodLinkNest "CycleShop$Rack" (34 : Nat) ({ cls := "CycleShop", name := "isWithin", desc := "(II)Z" } : MethodName) "CycleShop") ∈ nw_B := nw_in (i := 329) rfl rfl
set_option maxRecDepth 20000 in
theorem wm_330 : (Cond.methodLink "CycleShop" (197 : Nat) ({ cls := "CycleShop$Rack", name := "balance", desc := "(I)J" } : MethodName)) ∈ bs_B := bs_in (i := 330) rfl rfl
set_option maxRecDepth 20000 in
theorem wm_331 : (Cond.instanceMethod ({ cls := "CycleShop$Rack", name := "balance", desc := "(I)J" } : MethodName)) ∈ bs_B := bs_in (i := 331) rfl rfl
set_option maxRecDepth 20000 in
theorem wm_332 : (Cond.selects "CycleShop$Rack" ({ cls := "CycleShop$Rack", name := "balance", desc := "(I)J" } : MethodName) ({ cls := "CycleShop$Rack", name := "balance", desc := "(I)J" } : MethodName)) ∈ bs_B := bs_in (i := 332) rfl rfl
set_option maxRecDepth 20000 in
theorem wm_333 : (Cond.code ({ cls := "CycleShop$Rack", name := "balance", desc := "(I)J" } : MethodName) prog_5_method_4_code (3 : Nat) (Option.some FieldType.long)) ∈ bs_B := bs_in (i := 333) rfl rfl
set_option maxRecDepth 20000 in
theorem wm_334 : (Cond.methodLink "CycleShop$Rack" (48 : Nat) ({ cls := "CycleShop$Wheel", name := "label", desc := "()I" } : MethodName)) ∈ bs_B := bs_in (i := 334) rfl rfl
set_option maxRecDepth 20000 in
theorem wm_335 : (Cond.instanceMethod ({ cls := "CycleShop$Wheel", name := "label", desc := "()I" } : MethodName)) ∈ bs_B := bs_in (i := 335) rfl rfl
set_option maxRecDepth 20000 in
theorem wm_336 : (Cond.selects "CycleShop$Wheel" ({ cls := "CycleShop$Wheel", name := "label", desc := "()I" } : MethodName) ({ cls := "CycleShop$Wheel", name := "label", desc := "()I" } : MethodName)) ∈ bs_B := bs_in (i := 336) rfl rfl
set_option maxRecDepth 20000 in
theorem wm_337 : (Cond.code ({ cls := "CycleShop$Wheel", name := "label", desc := "()I" } : MethodName) prog_9_method_3_code (1 : Nat) (Option.some FieldType.int)) ∈ bs_B := bs_in (i := 337) rfl rfl
set_option maxRecDepth 20000 in
theorem wm_338 : (Cond.methodLink "CycleShop" (200 : Nat) ({ cls := "CycleShop", name := "excuse", desc := "(II)J" } : MethodName)) ∈ bs_B := bs_in (i := 338) rfl rfl
set_option maxRecDepth 20000 in
theorem wm_340 : (Cond.instanceMethod ({ cls := "CycleShop", name := "excuse", desc := "(II)J" } : MethodName)) ∈ bs_B := bs_in (i := 340) rfl rfl
set_option maxRecDepth 20000 in
theorem wm_341 : (Cond.code ({ cls := "CycleShop", name := "excuse", desc := "(II)J" } : MethodName) prog_1_method_21_code (3 : Nat) (Option.some FieldType.long)) ∈ bs_B := bs_in (i := 341) rfl rfl
set_option maxRecDepth 20000 in
theorem wm_342 : (Cond.methodLink "CycleShop" (147 : Nat) ({ cls := "CycleShop", name := "reasonOf", desc := "(J)I" } : MethodName)) ∈ bs_B := bs_in (i := 342) rfl rfl
set_option maxRecDepth 20000 in
theorem wm_343 : (Cond.static ({ cls := "CycleShop", name := "reasonOf", desc := "(J)I" } : MethodName)) ∈ bs_B := bs_in (i := 343) rfl rfl
set_option maxRecDepth 20000 in
theorem wm_344 : (Cond.code ({ cls := "CycleShop", name := "reasonOf", desc := "(J)I" } : MethodName) prog_1_method_15_code (2 : Nat) (Option.some FieldType.int)) ∈ bs_B := bs_in (i := 344) rfl rfl
set_option maxRecDepth 20000 in
theorem wm_345 : (Cond.constantLong "CycleShop" (142 : Nat) (-2147483648 : Int64)) ∈ bs_B := bs_in (i := 345) rfl rfl
set_option maxRecDepth 20000 in
theorem wm_346 : (Cond.methodLink "CycleShopLaw" (18 : Nat) ({ cls := "CycleShop", name := "step", desc := "(IIIIII)I" } : MethodName)) ∈ bs_B := bs_in (i := 346) rfl rfl
set_option maxRecDepth 20000 in
theorem wm_347 : (Cond.instanceMethod ({ cls := "CycleShop", name := "step", desc := "(IIIIII)I" } : MethodName)) ∈ bs_B := bs_in (i := 347) rfl rfl
set_option maxRecDepth 20000 in
theorem wm_348 : (Cond.selects "CycleShop" ({ cls := "CycleShop", name := "step", desc := "(IIIIII)I" } : MethodName) ({ cls := "CycleShop", name := "step", desc := "(IIIIII)I" } : MethodName)) ∈ bs_B := bs_in (i := 348) rfl rfl
set_option maxRecDepth 20000 in
theorem wm_349 : (Cond.code ({ cls := "CycleShop", name := "step", desc := "(IIIIII)I" } : MethodName) prog_1_method_3_code (8 : Nat) (Option.some FieldType.int)) ∈ bs_B := bs_in (i := 349) rfl rfl
set_option maxRecDepth 20000 in
theorem wm_350 : (Cond.classLink "CycleShop" (72 : Nat) "CycleShop$Step") ∈ bs_B := bs_in (i := 350) rfl rfl
set_option maxRecDepth 20000 in
theorem wm_351 : (Cond.instantiable "CycleShop$Step" (5 : Nat)) ∈ bs_B := bs_in (i := 351) rfl rfl
set_option maxRecDepth 20000 in
theorem wm_352 : (Cond.methodLink "CycleShop" (74 : Nat) ({ cls := "CycleShop$Step", name := "<init>", desc := "(IIIII)V" } : MethodName)) ∈ bs_B := bs_in (i := 352) rfl rfl
set_option maxRecDepth 20000 in
theorem wm_353 : (Cond.instanceMethod ({ cls := "CycleShop$Step", name := "<init>", desc := "(IIIII)V" } : MethodName)) ∈ bs_B := bs_in (i := 353) rfl rfl
set_option maxRecDepth 20000 in
theorem wm_354 : (Cond.code ({ cls := "CycleShop$Step", name := "<init>", desc := "(IIIII)V" } : MethodName) prog_8_method_1_code (6 : Nat) (Option.none : Option FieldType)) ∈ bs_B := bs_in (i := 354) rfl rfl
set_option maxRecDepth 20000 in
theorem wm_355 : (Cond.methodLink "CycleShop$Step" (1 : Nat) ({ cls := "java/lang/Object", name := "<init>", desc := "()V" } : MethodName)) ∈ bs_B := bs_in (i := 355) rfl rfl
set_option maxRecDepth 20000 in
theorem wm_356 : (Cond.fieldLink "CycleShop$Step" (7 : Nat) "CycleShop$Step" "kind" "I") ∈ bs_B := bs_in (i := 356) rfl rfl
set_option maxRecDepth 20000 in
theorem wm_357 : (Cond.fieldLink "CycleShop" (223 : Nat) "CycleShop$Step" "kind" "I") ∈ bs_B := bs_in (i := 357) rfl rfl
set_option maxRecDepth 20000 in
theorem wm_358 : (Cond.fieldLink "CycleShop$Step" (13 : Nat) "CycleShop$Step" "a" "I") ∈ bs_B := bs_in (i := 358) rfl rfl
set_option maxRecDepth 20000 in
theorem wm_359 : (Cond.fieldLink "CycleShop" (226 : Nat) "CycleShop$Step" "a" "I") ∈ bs_B := bs_in (i := 359) rfl rfl
set_option maxRecDepth 20000 in
theorem wm_360 : (Cond.fieldLink "CycleShop$Step" (16 : Nat) "CycleShop$Step" "b" "I") ∈ bs_B := bs_in (i := 360) rfl rfl
set_option maxRecDepth 20000 in
theorem wm_361 : (Cond.fieldLink "CycleShop" (229 : Nat) "CycleShop$Step" "b" "I") ∈ bs_B := bs_in (i := 361) rfl rfl
set_option maxRecDepth 20000 in
theorem wm_362 : (Cond.fieldLink "CycleShop$Step" (19 : Nat) "CycleShop$Step" "c" "I") ∈ bs_B := bs_in (i := 362) rfl rfl
set_option maxRecDepth 20000 in
theorem wm_363 : (Cond.fieldLink "CycleShop" (232 : Nat) "CycleShop$Step" "c" "I") ∈ bs_B := bs_in (i := 363) rfl rfl
set_option maxRecDepth 20000 in
theorem wm_364 : (Cond.fieldLink "CycleShop$Step" (22 : Nat) "CycleShop$Step" "stead" "I") ∈ bs_B := bs_in (i := 364) rfl rfl
set_option maxRecDepth 20000 in
theorem wm_365 : (Cond.fieldLink "CycleShop" (243 : Nat) "CycleShop$Step" "stead" "I") ∈ bs_B := bs_in (i := 365) rfl rfl
set_option maxRecDepth 20000 in
theorem wm_377 : (Cond.methodLink "CycleShop" (77 : Nat) ({ cls := "CycleShop$Job", name := "append", desc := "(LCycleShop$Step;)I" } : MethodName)) ∈ bs_B := bs_in (i := 377) rfl rfl
set_option maxRecDepth 20000 in
theorem wm_378 : (Cond.instanceMethod ({ cls := "CycleShop$Job", name := "append", desc := "(LCycleShop$Step;)I" } : MethodName)) ∈ bs_B := bs_in (i := 378) rfl rfl
set_option maxRecDepth 20000 in
theorem wm_379 : (Cond.selects "CycleShop$Job" ({ cls := "CycleShop$Job", name := "append", desc := "(LCycleShop$Step;)I" } : MethodName) ({ cls := "CycleShop$Job", name := "append", desc := "(LCycleShop$Step;)I" } : MethodName)) ∈ bs_B := bs_in (i := 379) rfl rfl
set_option maxRecDepth 20000 in
theorem wm_380 : (Cond.code ({ cls := "CycleShop$Job", name := "append", desc := "(LCycleShop$Step;)I" } : MethodName) prog_4_method_2_code (2 : Nat) (Option.some FieldType.int)) ∈ bs_B := bs_in (i := 380) rfl rfl
set_option maxRecDepth 20000 in
theorem wm_381 : (Cond.methodLink "CycleShopLaw" (23 : Nat) ({ cls := "CycleShop", name := "clear", desc := "(I)I" } : MethodName)) ∈ bs_B := bs_in (i := 381) rfl rfl
set_option maxRecDepth 20000 in
theorem wm_382 : (Cond.instanceMethod ({ cls := "CycleShop", name := "clear", desc := "(I)I" } : MethodName)) ∈ bs_B := bs_in (i := 382) rfl rfl
set_option maxRecDepth 20000 in
theorem wm_383 : (Cond.selects "CycleShop" ({ cls := "CycleShop", name := "clear", desc := "(I)I" } : MethodName) ({ cls := "CycleShop", name := "clear", desc := "(I)I" } : MethodName)) ∈ bs_B := bs_in (i := 383) rfl rfl
set_option maxRecDepth 20000 in
theorem wm_384 : (Cond.code ({ cls := "CycleShop", name := "clear", desc := "(I)I" } : MethodName) prog_1_method_4_code (2 : Nat) (Option.some FieldType.int)) ∈ bs_B := bs_in (i := 384) rfl rfl
set_option maxRecDepth 20000 in
theorem wm_385 : (Cond.methodLink "CycleShop" (81 : Nat) ({ cls := "CycleShop$Job", name := "empty", desc := "()I" } : MethodName)) ∈ bs_B := bs_in (i := 385) rfl rfl
set_option maxRecDepth 20000 in
theorem wm_386 : (Cond.instanceMethod ({ cls := "CycleShop$Job", name := "empty", desc := "()I" } : MethodName)) ∈ bs_B := bs_in (i := 386) rfl rfl
set_option maxRecDepth 20000 in
theorem wm_387 : (Cond.selects "CycleShop$Job" ({ cls := "CycleShop$Job", name := "empty", desc := "()I" } : MethodName) ({ cls := "CycleShop$Job", name := "empty", desc := "()I" } : MethodName)) ∈ bs_B := bs_in (i := 387) rfl rfl
set_option maxRecDepth 20000 in
theorem wm_388 : (Cond.code ({ cls := "CycleShop$Job", name := "empty", desc := "()I" } : MethodName) prog_4_method_3_code (2 : Nat) (Option.some FieldType.int)) ∈ bs_B := bs_in (i := 388) rfl rfl
set_option maxRecDepth 20000 in
theorem wm_389 : (Cond.methodLink "CycleShopLaw" (28 : Nat) ({ cls := "CycleShop", name := "run", desc := "(II)I" } : MethodName)) ∈ bs_B := bs_in (i := 389) rfl rfl
set_option maxRecDepth 20000 in
theorem wm_390 : (Cond.instanceMethod ({ cls := "CycleShop", name := "run", desc := "(II)I" } : MethodName)) ∈ bs_B := bs_in (i := 390) rfl rfl
set_option maxRecDepth 20000 in
theorem wm_391 : (Cond.selects "CycleShop" ({ cls := "CycleShop", name := "run", desc := "(II)I" } : MethodName) ({ cls := "CycleShop", name := "run", desc := "(II)I" } : MethodName)) ∈ bs_B := bs_in (i := 391) rfl rfl
set_option maxRecDepth 20000 in
theorem wm_392 : (Cond.code ({ cls := "CycleShop", name := "run", desc := "(II)I" } : MethodName) prog_1_method_5_code (6 : Nat) (Option.some FieldType.int)) ∈ bs_B := bs_in (i := 392) rfl rfl
set_option maxRecDepth 20000 in
theorem wm_393 : (Cond.methodLink "CycleShop" (85 : Nat) ({ cls := "CycleShop$Report", name := "restart", desc := "()V" } : MethodName)) ∈ bs_B := bs_in (i := 393) rfl rfl
set_option maxRecDepth 20000 in
theorem wm_394 : (Cond.instanceMethod ({ cls := "CycleShop$Report", name := "restart", desc := "()V" } : MethodName)) ∈ bs_B := bs_in (i := 394) rfl rfl
set_option maxRecDepth 20000 in
theorem wm_395 : (Cond.selects "CycleShop$Report" ({ cls := "CycleShop$Report", name := "restart", desc := "()V" } : MethodName) ({ cls := "CycleShop$Report", name := "restart", desc := "()V" } : MethodName)) ∈ bs_B := bs_in (i := 395) rfl rfl
set_option maxRecDepth 20000 in
theorem wm_396 : (Cond.code ({ cls := "CycleShop$Report", name := "restart", desc := "()V" } : MethodName) prog_6_method_2_code (1 : Nat) (Option.none : Option FieldType)) ∈ bs_B := bs_in (i := 396) rfl rfl
set_option maxRecDepth 20000 in
theorem wm_397 : (Cond.methodLink "CycleShop" (92 : Nat) ({ cls := "CycleShop", name := "isDone", desc := "(LCycleShop$Job;I)Z" } : MethodName)) ∈ bs_B := bs_in (i := 397) rfl rfl
set_option maxRecDepth 20000 in
theorem wm_399 : (Cond.instanceMethod ({ cls := "CycleShop", name := "isDone", desc := "(LCycleShop$Job;I)Z" } : MethodName)) ∈ bs_B := bs_in (i := 399) rfl rfl
set_option maxRecDepth 20000 in
theorem wm_400 : (Cond.code ({ cls := "CycleShop", name := "isDone", desc := "(LCycleShop$Job;I)Z" } : MethodName) prog_1_method_22_code (7 : Nat) (Option.some FieldType.boolean)) ∈ bs_B := bs_in (i := 400) rfl rfl
set_option maxRecDepth 20000 in
theorem wm_401 : (Cond.methodLink "CycleShop" (219 : Nat) ({ cls := "CycleShop$Job", name := "stepAt", desc := "(I)LCycleShop$Step;" } : MethodName)) ∈ bs_B := bs_in (i := 401) rfl rfl
set_option maxRecDepth 20000 in
theorem wm_402 : (Cond.instanceMethod ({ cls := "CycleShop$Job", name := "stepAt", desc := "(I)LCycleShop$Step;" } : MethodName)) ∈ bs_B := bs_in (i := 402) rfl rfl
set_option maxRecDepth 20000 in
theorem wm_403 : (Cond.selects "CycleShop$Job" ({ cls := "CycleShop$Job", name := "stepAt", desc := "(I)LCycleShop$Step;" } : MethodName) ({ cls := "CycleShop$Job", name := "stepAt", desc := "(I)LCycleShop$Step;" } : MethodName)) ∈ bs_B := bs_in (i := 403) rfl rfl
set_option maxRecDepth 20000 in
theorem wm_404 : (Cond.code ({ cls := "CycleShop$Job", name := "stepAt", desc := "(I)LCycleShop$Step;" } : MethodName) prog_4_method_4_code (2 : Nat) (Option.some (FieldType.object "CycleShop$Step"))) ∈ bs_B := bs_in (i := 404) rfl rfl
set_option maxRecDepth 20000 in
theorem nm_405 : (Cond.methodLinkNest "CycleShop$Job" (21 : Nat) ({ cls := "CycleShop", name := "isWithin", desc := "(II)Z" } : MethodName) "CycleShop") ∈ nw_B := nw_in (i := 405) rfl rfl
set_option maxRecDepth 20000 in
theorem wm_406 : (Cond.methodLink "CycleShop" (235 : Nat) ({ cls := "CycleShop$Report", name := "addFailure", desc := "(II)V" } : MethodName)) ∈ bs_B := bs_in (i := 406) rfl rfl
set_option maxRecDepth 20000 in
theorem wm_407 : (Cond.instanceMethod ({ cls := "CycleShop$Report", name := "addFailure", desc := "(II)V" } : MethodName)) ∈ bs_B := bs_in (i := 407) rfl rfl
set_option maxRecDepth 20000 in
theorem wm_408 : (Cond.selects "CycleShop$Report" ({ cls := "CycleShop$Report", name := "addFailure", desc := "(II)V" } : MethodName) ({ cls := "CycleShop$Report", name := "addFailure", desc := "(II)V" } : MethodName)) ∈ bs_B := bs_in (i := 408) rfl rfl
set_option maxRecDepth 20000 in
theorem wm_409 : (Cond.code ({ cls := "CycleShop$Report", name := "addFailure", desc := "(II)V" } : MethodName) prog_6_method_4_code (3 : Nat) (Option.none : Option FieldType)) ∈ bs_B := bs_in (i := 409) rfl rfl
set_option maxRecDepth 20000 in
theorem wm_410 : (Cond.methodLink "CycleShop" (239 : Nat) ({ cls := "CycleShop$Report", name := "addAnswer", desc := "(J)V" } : MethodName)) ∈ bs_B := bs_in (i := 410) rfl rfl
set_option maxRecDepth 20000 in
theorem wm_411 : (Cond.instanceMethod ({ cls := "CycleShop$Report", name := "addAnswer", desc := "(J)V" } : MethodName)) ∈ bs_B := bs_in (i := 411) rfl rfl
set_option maxRecDepth 20000 in
theorem wm_412 : (Cond.selects "CycleShop$Report" ({ cls := "CycleShop$Report", name := "addAnswer", desc := "(J)V" } : MethodName) ({ cls := "CycleShop$Report", name := "addAnswer", desc := "(J)V" } : MethodName)) ∈ bs_B := bs_in (i := 412) rfl rfl
set_option maxRecDepth 20000 in
theorem wm_413 : (Cond.code ({ cls := "CycleShop$Report", name := "addAnswer", desc := "(J)V" } : MethodName) prog_6_method_3_code (3 : Nat) (Option.none : Option FieldType)) ∈ bs_B := bs_in (i := 413) rfl rfl
set_option maxRecDepth 20000 in
theorem wm_414 : (Cond.methodLink "CycleShop" (96 : Nat) ({ cls := "CycleShop", name := "isDoneInStead", desc := "(LCycleShop$Job;I)Z" } : MethodName)) ∈ bs_B := bs_in (i := 414) rfl rfl
set_option maxRecDepth 20000 in
theorem wm_416 : (Cond.instanceMethod ({ cls := "CycleShop", name := "isDoneInStead", desc := "(LCycleShop$Job;I)Z" } : MethodName)) ∈ bs_B := bs_in (i := 416) rfl rfl
set_option maxRecDepth 20000 in
theorem wm_417 : (Cond.code ({ cls := "CycleShop", name := "isDoneInStead", desc := "(LCycleShop$Job;I)Z" } : MethodName) prog_1_method_23_code (4 : Nat) (Option.some FieldType.boolean)) ∈ bs_B := bs_in (i := 417) rfl rfl
set_option maxRecDepth 20000 in
theorem wm_418 : (Cond.methodLink "CycleShopLaw" (33 : Nat) ({ cls := "CycleShop", name := "told", desc := "(I)I" } : MethodName)) ∈ bs_B := bs_in (i := 418) rfl rfl
set_option maxRecDepth 20000 in
theorem wm_419 : (Cond.instanceMethod ({ cls := "CycleShop", name := "told", desc := "(I)I" } : MethodName)) ∈ bs_B := bs_in (i := 419) rfl rfl
set_option maxRecDepth 20000 in
theorem wm_420 : (Cond.selects "CycleShop" ({ cls := "CycleShop", name := "told", desc := "(I)I" } : MethodName) ({ cls := "CycleShop", name := "told", desc := "(I)I" } : MethodName)) ∈ bs_B := bs_in (i := 420) rfl rfl
set_option maxRecDepth 20000 in
theorem wm_421 : (Cond.code ({ cls := "CycleShop", name := "told", desc := "(I)I" } : MethodName) prog_1_method_6_code (2 : Nat) (Option.some FieldType.int)) ∈ bs_B := bs_in (i := 421) rfl rfl
set_option maxRecDepth 20000 in
theorem wm_422 : (Cond.methodLink "CycleShopLaw" (37 : Nat) ({ cls := "CycleShop", name := "sum", desc := "()J" } : MethodName)) ∈ bs_B := bs_in (i := 422) rfl rfl
set_option maxRecDepth 20000 in
theorem wm_423 : (Cond.instanceMethod ({ cls := "CycleShop", name := "sum", desc := "()J" } : MethodName)) ∈ bs_B := bs_in (i := 423) rfl rfl
set_option maxRecDepth 20000 in
theorem wm_424 : (Cond.selects "CycleShop" ({ cls := "CycleShop", name := "sum", desc := "()J" } : MethodName) ({ cls := "CycleShop", name := "sum", desc := "()J" } : MethodName)) ∈ bs_B := bs_in (i := 424) rfl rfl
set_option maxRecDepth 20000 in
theorem wm_425 : (Cond.code ({ cls := "CycleShop", name := "sum", desc := "()J" } : MethodName) prog_1_method_7_code (1 : Nat) (Option.some FieldType.long)) ∈ bs_B := bs_in (i := 425) rfl rfl
set_option maxRecDepth 20000 in
theorem wm_426 : (Cond.methodLink "CycleShopLaw" (42 : Nat) ({ cls := "CycleShop", name := "tally", desc := "(I)I" } : MethodName)) ∈ bs_B := bs_in (i := 426) rfl rfl
set_option maxRecDepth 20000 in
theorem wm_427 : (Cond.instanceMethod ({ cls := "CycleShop", name := "tally", desc := "(I)I" } : MethodName)) ∈ bs_B := bs_in (i := 427) rfl rfl
set_option maxRecDepth 20000 in
theorem wm_428 : (Cond.selects "CycleShop" ({ cls := "CycleShop", name := "tally", desc := "(I)I" } : MethodName) ({ cls := "CycleShop", name := "tally", desc := "(I)I" } : MethodName)) ∈ bs_B := bs_in (i := 428) rfl rfl
set_option maxRecDepth 20000 in
theorem wm_429 : (Cond.code ({ cls := "CycleShop", name := "tally", desc := "(I)I" } : MethodName) prog_1_method_8_code (2 : Nat) (Option.some FieldType.int)) ∈ bs_B := bs_in (i := 429) rfl rfl
set_option maxRecDepth 20000 in
theorem wm_430 : (Cond.methodLink "CycleShopLaw" (46 : Nat) ({ cls := "CycleShop", name := "stand", desc := "(II)I" } : MethodName)) ∈ bs_B := bs_in (i := 430) rfl rfl
set_option maxRecDepth 20000 in
theorem wm_431 : (Cond.instanceMethod ({ cls := "CycleShop", name := "stand", desc := "(II)I" } : MethodName)) ∈ bs_B := bs_in (i := 431) rfl rfl
set_option maxRecDepth 20000 in
theorem wm_432 : (Cond.selects "CycleShop" ({ cls := "CycleShop", name := "stand", desc := "(II)I" } : MethodName) ({ cls := "CycleShop", name := "stand", desc := "(II)I" } : MethodName)) ∈ bs_B := bs_in (i := 432) rfl rfl
set_option maxRecDepth 20000 in
theorem wm_433 : (Cond.code ({ cls := "CycleShop", name := "stand", desc := "(II)I" } : MethodName) prog_1_method_9_code (3 : Nat) (Option.some FieldType.int)) ∈ bs_B := bs_in (i := 433) rfl rfl
set_option maxRecDepth 20000 in
theorem wm_434 : (Cond.constant "CycleShop" (118 : Nat) (-2147483648 : Int32)) ∈ bs_B := bs_in (i := 434) rfl rfl
set_option maxRecDepth 20000 in
theorem wm_435 : (Cond.methodLink "CycleShop" (119 : Nat) ({ cls := "CycleShop", name := "hanging", desc := "(LCycleShop$Stand;)I" } : MethodName)) ∈ bs_B := bs_in (i := 435) rfl rfl
set_option maxRecDepth 20000 in
theorem wm_437 : (Cond.instanceMethod ({ cls := "CycleShop", name := "hanging", desc := "(LCycleShop$Stand;)I" } : MethodName)) ∈ bs_B := bs_in (i := 437) rfl rfl
set_option maxRecDepth 20000 in
theorem wm_438 : (Cond.code ({ cls := "CycleShop", name := "hanging", desc := "(LCycleShop$Stand;)I" } : MethodName) prog_1_method_24_code (4 : Nat) (Option.some FieldType.int)) ∈ bs_B := bs_in (i := 438) rfl rfl
set_option maxRecDepth 20000 in
theorem wm_439 : (Cond.methodLink "CycleShop" (250 : Nat) ({ cls := "CycleShop$Rack", name := "holds", desc := "(LCycleShop$Wheel;)Z" } : MethodName)) ∈ bs_B := bs_in (i := 439) rfl rfl
set_option maxRecDepth 20000 in
theorem wm_440 : (Cond.instanceMethod ({ cls := "CycleShop$Rack", name := "holds", desc := "(LCycleShop$Wheel;)Z" } : MethodName)) ∈ bs_B := bs_in (i := 440) rfl rfl
set_option maxRecDepth 20000 in
theorem wm_441 : (Cond.selects "CycleShop$Rack" ({ cls := "CycleShop$Rack", name := "holds", desc := "(LCycleShop$Wheel;)Z" } : MethodName) ({ cls := "CycleShop$Rack", name := "holds", desc := "(LCycleShop$Wheel;)Z" } : MethodName)) ∈ bs_B := bs_in (i := 441) rfl rfl
set_option maxRecDepth 20000 in
theorem wm_442 : (Cond.code ({ cls := "CycleShop$Rack", name := "holds", desc := "(LCycleShop$Wheel;)Z" } : MethodName) prog_5_method_6_code (4 : Nat) (Option.some FieldType.boolean)) ∈ bs_B := bs_in (i := 442) rfl rfl
set_option maxRecDepth 20000 in
theorem wm_443 : (Cond.methodLink "CycleShop" (123 : Nat) ({ cls := "CycleShop$Stand", name := "tell", desc := "(I)I" } : MethodName)) ∈ bs_B := bs_in (i := 443) rfl rfl
set_option maxRecDepth 20000 in
theorem wm_444 : (Cond.instanceMethod ({ cls := "CycleShop$Stand", name := "tell", desc := "(I)I" } : MethodName)) ∈ bs_B := bs_in (i := 444) rfl rfl
set_option maxRecDepth 20000 in
theorem wm_445 : (Cond.selects "CycleShop$Stand" ({ cls := "CycleShop$Stand", name := "tell", desc := "(I)I" } : MethodName) ({ cls := "CycleShop$Stand", name := "tell", desc := "(I)I" } : MethodName)) ∈ bs_B := bs_in (i := 445) rfl rfl
set_option maxRecDepth 20000 in
theorem wm_446 : (Cond.code ({ cls := "CycleShop$Stand", name := "tell", desc := "(I)I" } : MethodName) prog_7_method_10_code (2 : Nat) (Option.some FieldType.int)) ∈ bs_B := bs_in (i := 446) rfl rfl
set_option maxRecDepth 20000 in
theorem wm_447 : (Cond.constant "CycleShop$Stand" (59 : Nat) (-2147483648 : Int32)) ∈ bs_B := bs_in (i := 447) rfl rfl
set_option maxRecDepth 20000 in
theorem wm_448 : (Cond.methodLink "CycleShopLaw" (50 : Nat) ({ cls := "CycleShop", name := "basket", desc := "(II)I" } : MethodName)) ∈ bs_B := bs_in (i := 448) rfl rfl
set_option maxRecDepth 20000 in
theorem wm_449 : (Cond.instanceMethod ({ cls := "CycleShop", name := "basket", desc := "(II)I" } : MethodName)) ∈ bs_B := bs_in (i := 449) rfl rfl
set_option maxRecDepth 20000 in
theorem wm_450 : (Cond.selects "CycleShop" ({ cls := "CycleShop", name := "basket", desc := "(II)I" } : MethodName) ({ cls := "CycleShop", name := "basket", desc := "(II)I" } : MethodName)) ∈ bs_B := bs_in (i := 450) rfl rfl
set_option maxRecDepth 20000 in
theorem wm_451 : (Cond.code ({ cls := "CycleShop", name := "basket", desc := "(II)I" } : MethodName) prog_1_method_10_code (3 : Nat) (Option.some FieldType.int)) ∈ bs_B := bs_in (i := 451) rfl rfl
set_option maxRecDepth 20000 in
theorem wm_452 : (Cond.methodLink "CycleShop" (127 : Nat) ({ cls := "CycleShop$Basket", name := "numberAt", desc := "(I)I" } : MethodName)) ∈ bs_B := bs_in (i := 452) rfl rfl
set_option maxRecDepth 20000 in
theorem wm_453 : (Cond.instanceMethod ({ cls := "CycleShop$Basket", name := "numberAt", desc := "(I)I" } : MethodName)) ∈ bs_B := bs_in (i := 453) rfl rfl
set_option maxRecDepth 20000 in
theorem wm_454 : (Cond.selects "CycleShop$Basket" ({ cls := "CycleShop$Basket", name := "numberAt", desc := "(I)I" } : MethodName) ({ cls := "CycleShop$Basket", name := "numberAt", desc := "(I)I" } : MethodName)) ∈ bs_B := bs_in (i := 454) rfl rfl
set_option maxRecDepth 20000 in
theorem wm_455 : (Cond.code ({ cls := "CycleShop$Basket", name := "numberAt", desc := "(I)I" } : MethodName) prog_2_method_4_code (2 : Nat) (Option.some FieldType.int)) ∈ bs_B := bs_in (i := 455) rfl rfl
set_option maxRecDepth 20000 in
theorem wm_456 : (Cond.methodLink "CycleShopLaw" (54 : Nat) ({ cls := "CycleShop", name := "rack", desc := "(II)I" } : MethodName)) ∈ bs_B := bs_in (i := 456) rfl rfl
set_option maxRecDepth 20000 in
theorem wm_457 : (Cond.instanceMethod ({ cls := "CycleShop", name := "rack", desc := "(II)I" } : MethodName)) ∈ bs_B := bs_in (i := 457) rfl rfl
set_option maxRecDepth 20000 in
theorem wm_458 : (Cond.selects "CycleShop" ({ cls := "CycleShop", name := "rack", desc := "(II)I" } : MethodName) ({ cls := "CycleShop", name := "rack", desc := "(II)I" } : MethodName)) ∈ bs_B := bs_in (i := 458) rfl rfl
set_option maxRecDepth 20000 in
theorem wm_459 : (Cond.code ({ cls := "CycleShop", name := "rack", desc := "(II)I" } : MethodName) prog_1_method_11_code (4 : Nat) (Option.some FieldType.int)) ∈ bs_B := bs_in (i := 459) rfl rfl
set_option maxRecDepth 20000 in
theorem wm_460 : (Cond.methodLink "CycleShop" (130 : Nat) ({ cls := "CycleShop$Rack", name := "wheelAt", desc := "(I)LCycleShop$Wheel;" } : MethodName)) ∈ bs_B := bs_in (i := 460) rfl rfl
set_option maxRecDepth 20000 in
theorem wm_461 : (Cond.instanceMethod ({ cls := "CycleShop$Rack", name := "wheelAt", desc := "(I)LCycleShop$Wheel;" } : MethodName)) ∈ bs_B := bs_in (i := 461) rfl rfl
set_option maxRecDepth 20000 in
theorem wm_462 : (Cond.selects "CycleShop$Rack" ({ cls := "CycleShop$Rack", name := "wheelAt", desc := "(I)LCycleShop$Wheel;" } : MethodName) ({ cls := "CycleShop$Rack", name := "wheelAt", desc := "(I)LCycleShop$Wheel;" } : MethodName)) ∈ bs_B := bs_in (i := 462) rfl rfl
set_option maxRecDepth 20000 in
theorem wm_463 : (Cond.code ({ cls := "CycleShop$Rack", name := "wheelAt", desc := "(I)LCycleShop$Wheel;" } : MethodName) prog_5_method_5_code (2 : Nat) (Option.some (FieldType.object "CycleShop$Wheel"))) ∈ bs_B := bs_in (i := 463) rfl rfl
set_option maxRecDepth 20000 in
theorem wm_464 : (Cond.methodLink "CycleShop" (134 : Nat) ({ cls := "CycleShop$Wheel", name := "label", desc := "()I" } : MethodName)) ∈ bs_B := bs_in (i := 464) rfl rfl
set_option maxRecDepth 20000 in
theorem wm_465 : (Cond.methodLink "CycleShopLaw" (58 : Nat) ({ cls := "CycleShop", name := "grid", desc := "(III)I" } : MethodName)) ∈ bs_B := bs_in (i := 465) rfl rfl
set_option maxRecDepth 20000 in
theorem wm_466 : (Cond.instanceMethod ({ cls := "CycleShop", name := "grid", desc := "(III)I" } : MethodName)) ∈ bs_B := bs_in (i := 466) rfl rfl
set_option maxRecDepth 20000 in
theorem wm_467 : (Cond.selects "CycleShop" ({ cls := "CycleShop", name := "grid", desc := "(III)I" } : MethodName) ({ cls := "CycleShop", name := "grid", desc := "(III)I" } : MethodName)) ∈ bs_B := bs_in (i := 467) rfl rfl
set_option maxRecDepth 20000 in
theorem wm_468 : (Cond.code ({ cls := "CycleShop", name := "grid", desc := "(III)I" } : MethodName) prog_1_method_12_code (4 : Nat) (Option.some FieldType.int)) ∈ bs_B := bs_in (i := 468) rfl rfl
set_option maxRecDepth 20000 in
theorem wm_469 : (Cond.methodLink "CycleShop" (139 : Nat) ({ cls := "CycleShop$Grid", name := "numberAt", desc := "(II)I" } : MethodName)) ∈ bs_B := bs_in (i := 469) rfl rfl
set_option maxRecDepth 20000 in
theorem wm_470 : (Cond.instanceMethod ({ cls := "CycleShop$Grid", name := "numberAt", desc := "(II)I" } : MethodName)) ∈ bs_B := bs_in (i := 470) rfl rfl
set_option maxRecDepth 20000 in
theorem wm_471 : (Cond.selects "CycleShop$Grid" ({ cls := "CycleShop$Grid", name := "numberAt", desc := "(II)I" } : MethodName) ({ cls := "CycleShop$Grid", name := "numberAt", desc := "(II)I" } : MethodName)) ∈ bs_B := bs_in (i := 471) rfl rfl
set_option maxRecDepth 20000 in
theorem wm_472 : (Cond.code ({ cls := "CycleShop$Grid", name := "numberAt", desc := "(II)I" } : MethodName) prog_3_method_6_code (3 : Nat) (Option.some FieldType.int)) ∈ bs_B := bs_in (i := 472) rfl rfl
set_option maxRecDepth 20000 in
theorem wm_473 : (Cond.classLink "CycleShopLaw" (10 : Nat) "CycleShopModel") ∈ bs_B := bs_in (i := 473) rfl rfl
set_option maxRecDepth 20000 in
theorem wm_474 : (Cond.instantiable "CycleShopModel" (28 : Nat)) ∈ bs_B := bs_in (i := 474) rfl rfl
set_option maxRecDepth 20000 in
theorem wm_475 : (Cond.methodLink "CycleShopLaw" (12 : Nat) ({ cls := "CycleShopModel", name := "<init>", desc := "()V" } : MethodName)) ∈ bs_B := bs_in (i := 475) rfl rfl
set_option maxRecDepth 20000 in
theorem wm_476 : (Cond.instanceMethod ({ cls := "CycleShopModel", name := "<init>", desc := "()V" } : MethodName)) ∈ bs_B := bs_in (i := 476) rfl rfl
set_option maxRecDepth 20000 in
theorem wm_477 : (Cond.code ({ cls := "CycleShopModel", name := "<init>", desc := "()V" } : MethodName) prog_11_method_1_code (2 : Nat) (Option.none : Option FieldType)) ∈ bs_B := bs_in (i := 477) rfl rfl
set_option maxRecDepth 20000 in
theorem wm_478 : (Cond.methodLink "CycleShopModel" (1 : Nat) ({ cls := "java/lang/Object", name := "<init>", desc := "()V" } : MethodName)) ∈ bs_B := bs_in (i := 478) rfl rfl
set_option maxRecDepth 20000 in
theorem wm_479 : (Cond.fieldLink "CycleShopModel" (7 : Nat) "CycleShopModel" "isThere" "[Z") ∈ bs_B := bs_in (i := 479) rfl rfl
set_option maxRecDepth 20000 in
theorem wm_480 : (Cond.fieldLink "CycleShopModel" (13 : Nat) "CycleShopModel" "frames" "[I") ∈ bs_B := bs_in (i := 480) rfl rfl
set_option maxRecDepth 20000 in
theorem wm_481 : (Cond.fieldLink "CycleShopModel" (17 : Nat) "CycleShopModel" "wheel" "[I") ∈ bs_B := bs_in (i := 481) rfl rfl
set_option maxRecDepth 20000 in
theorem wm_482 : (Cond.fieldLink "CycleShopModel" (20 : Nat) "CycleShopModel" "lamps" "[I") ∈ bs_B := bs_in (i := 482) rfl rfl
set_option maxRecDepth 20000 in
theorem wm_483 : (Cond.fieldLink "CycleShopModel" (23 : Nat) "CycleShopModel" "charges" "[I") ∈ bs_B := bs_in (i := 483) rfl rfl
set_option maxRecDepth 20000 in
theorem wm_484 : (Cond.fieldLink "CycleShopModel" (26 : Nat) "CycleShopModel" "spokes" "[I") ∈ bs_B := bs_in (i := 484) rfl rfl
set_option maxRecDepth 20000 in
theorem wm_485 : (Cond.fieldLink "CycleShopModel" (29 : Nat) "CycleShopModel" "turns" "[I") ∈ bs_B := bs_in (i := 485) rfl rfl
set_option maxRecDepth 20000 in
theorem wm_486 : (Cond.fieldLink "CycleShopModel" (32 : Nat) "CycleShopModel" "isDisc" "[Z") ∈ bs_B := bs_in (i := 486) rfl rfl
set_option maxRecDepth 20000 in
theorem wm_487 : (Cond.fieldLink "CycleShopModel" (35 : Nat) "CycleShopModel" "baskets" "[I") ∈ bs_B := bs_in (i := 487) rfl rfl
set_option maxRecDepth 20000 in
theorem wm_488 : (Cond.fieldLink "CycleShopModel" (38 : Nat) "CycleShopModel" "inBasket" "[I") ∈ bs_B := bs_in (i := 488) rfl rfl
set_option maxRecDepth 20000 in
theorem wm_489 : (Cond.fieldLink "CycleShopModel" (41 : Nat) "CycleShopModel" "racks" "[I") ∈ bs_B := bs_in (i := 489) rfl rfl
set_option maxRecDepth 20000 in
theorem wm_490 : (Cond.fieldLink "CycleShopModel" (44 : Nat) "CycleShopModel" "forDiscs" "[Z") ∈ bs_B := bs_in (i := 490) rfl rfl
set_option maxRecDepth 20000 in
theorem wm_491 : (Cond.fieldLink "CycleShopModel" (47 : Nat) "CycleShopModel" "inRack" "[I") ∈ bs_B := bs_in (i := 491) rfl rfl
set_option maxRecDepth 20000 in
theorem wm_492 : (Cond.fieldLink "CycleShopModel" (50 : Nat) "CycleShopModel" "grids" "[I") ∈ bs_B := bs_in (i := 492) rfl rfl
set_option maxRecDepth 20000 in
theorem wm_493 : (Cond.fieldLink "CycleShopModel" (53 : Nat) "CycleShopModel" "wide" "[I") ∈ bs_B := bs_in (i := 493) rfl rfl
set_option maxRecDepth 20000 in
theorem wm_494 : (Cond.fieldLink "CycleShopModel" (56 : Nat) "CycleShopModel" "inGrid" "[I") ∈ bs_B := bs_in (i := 494) rfl rfl
set_option maxRecDepth 20000 in
theorem wm_495 : (Cond.fieldLink "CycleShopModel" (59 : Nat) "CycleShopModel" "excuses" "[I") ∈ bs_B := bs_in (i := 495) rfl rfl
set_option maxRecDepth 20000 in
theorem wm_496 : (Cond.fieldLink "CycleShopModel" (62 : Nat) "CycleShopModel" "steps" "[I") ∈ bs_B := bs_in (i := 496) rfl rfl
set_option maxRecDepth 20000 in
theorem wm_497 : (Cond.fieldLink "CycleShopModel" (65 : Nat) "CycleShopModel" "step" "[I") ∈ bs_B := bs_in (i := 497) rfl rfl
set_option maxRecDepth 20000 in
theorem wm_498 : (Cond.fieldLink "CycleShopModel" (154 : Nat) "CycleShopModel" "done" "I") ∈ bs_B := bs_in (i := 498) rfl rfl
set_option maxRecDepth 20000 in
theorem wm_499 : (Cond.fieldLink "CycleShopModel" (161 : Nat) "CycleShopModel" "failed" "I") ∈ bs_B := bs_in (i := 499) rfl rfl
set_option maxRecDepth 20000 in
theorem wm_500 : (Cond.fieldLink "CycleShopModel" (164 : Nat) "CycleShopModel" "reason" "I") ∈ bs_B := bs_in (i := 500) rfl rfl
set_option maxRecDepth 20000 in
theorem wm_501 : (Cond.fieldLink "CycleShopModel" (68 : Nat) "CycleShopModel" "where" "I") ∈ bs_B := bs_in (i := 501) rfl rfl
set_option maxRecDepth 20000 in
theorem wm_502 : (Cond.fieldLink "CycleShopModel" (167 : Nat) "CycleShopModel" "came" "I") ∈ bs_B := bs_in (i := 502) rfl rfl
set_option maxRecDepth 20000 in
theorem wm_503 : (Cond.fieldLink "CycleShopModel" (157 : Nat) "CycleShopModel" "sum" "J") ∈ bs_B := bs_in (i := 503) rfl rfl
set_option maxRecDepth 20000 in
theorem wm_504 : (Cond.fieldLink "CycleShopModel" (72 : Nat) "CycleShopModel" "tally" "[I") ∈ bs_B := bs_in (i := 504) rfl rfl
set_option maxRecDepth 20000 in
theorem wm_505 : (Cond.fieldLink "CycleShopModel" (87 : Nat) "CycleShopModel" "why" "I") ∈ bs_B := bs_in (i := 505) rfl rfl
set_option maxRecDepth 20000 in
theorem wm_506 : (Cond.fieldLink "CycleShopModel" (90 : Nat) "CycleShopModel" "answer" "I") ∈ bs_B := bs_in (i := 506) rfl rfl
set_option maxRecDepth 20000 in
theorem wm_564 : (Cond.arrayClass FieldType.boolean) ∈ bs_B := bs_in (i := 564) rfl rfl
set_option maxRecDepth 20000 in
theorem wm_565 : (Cond.methodLink "CycleShopLaw" (17 : Nat) ({ cls := "CycleShopModel", name := "act", desc := "(IIII)J" } : MethodName)) ∈ bs_B := bs_in (i := 565) rfl rfl
set_option maxRecDepth 20000 in
theorem wm_566 : (Cond.instanceMethod ({ cls := "CycleShopModel", name := "act", desc := "(IIII)J" } : MethodName)) ∈ bs_B := bs_in (i := 566) rfl rfl
set_option maxRecDepth 20000 in
theorem wm_567 : (Cond.selects "CycleShopModel" ({ cls := "CycleShopModel", name := "act", desc := "(IIII)J" } : MethodName) ({ cls := "CycleShopModel", name := "act", desc := "(IIII)J" } : MethodName)) ∈ bs_B := bs_in (i := 567) rfl rfl
set_option maxRecDepth 20000 in
theorem wm_568 : (Cond.code ({ cls := "CycleShopModel", name := "act", desc := "(IIII)J" } : MethodName) prog_11_method_19_code (5 : Nat) (Option.some FieldType.long)) ∈ bs_B := bs_in (i := 568) rfl rfl
set_option maxRecDepth 20000 in
theorem wm_569 : (Cond.methodLink "CycleShopModel" (141 : Nat) ({ cls := "CycleShopModel", name := "isStep", desc := "(IIII)Z" } : MethodName)) ∈ bs_B := bs_in (i := 569) rfl rfl
set_option maxRecDepth 20000 in
theorem wm_570 : (Cond.static ({ cls := "CycleShopModel", name := "isStep", desc := "(IIII)Z" } : MethodName)) ∈ bs_B := bs_in (i := 570) rfl rfl
set_option maxRecDepth 20000 in
theorem wm_571 : (Cond.code ({ cls := "CycleShopModel", name := "isStep", desc := "(IIII)Z" } : MethodName) prog_11_method_3_code (4 : Nat) (Option.some FieldType.boolean)) ∈ bs_B := bs_in (i := 571) rfl rfl
set_option maxRecDepth 20000 in
theorem wm_572 : (Cond.constantLong "CycleShopModel" (75 : Nat) (16 : Int64)) ∈ bs_B := bs_in (i := 572) rfl rfl
set_option maxRecDepth 20000 in
theorem wm_573 : (Cond.methodLink "CycleShopModel" (77 : Nat) ({ cls := "CycleShopModel", name := "in", desc := "(JJJ)Z" } : MethodName)) ∈ bs_B := bs_in (i := 573) rfl rfl
set_option maxRecDepth 20000 in
theorem wm_574 : (Cond.static ({ cls := "CycleShopModel", name := "in", desc := "(JJJ)Z" } : MethodName)) ∈ bs_B := bs_in (i := 574) rfl rfl
set_option maxRecDepth 20000 in
theorem wm_575 : (Cond.code ({ cls := "CycleShopModel", name := "in", desc := "(JJJ)Z" } : MethodName) prog_11_method_2_code (6 : Nat) (Option.some FieldType.boolean)) ∈ bs_B := bs_in (i := 575) rfl rfl
set_option maxRecDepth 20000 in
theorem wm_576 : (Cond.constantLong "CycleShopModel" (81 : Nat) (3 : Int64)) ∈ bs_B := bs_in (i := 576) rfl rfl
set_option maxRecDepth 20000 in
theorem wm_577 : (Cond.constantLong "CycleShopModel" (145 : Nat) (-9223372036854775808 : Int64)) ∈ bs_B := bs_in (i := 577) rfl rfl
set_option maxRecDepth 20000 in
theorem wm_578 : (Cond.methodLink "CycleShopModel" (147 : Nat) ({ cls := "CycleShopModel", name := "does", desc := "(IIII)V" } : MethodName)) ∈ bs_B := bs_in (i := 578) rfl rfl
set_option maxRecDepth 20000 in
theorem wm_580 : (Cond.instanceMethod ({ cls := "CycleShopModel", name := "does", desc := "(IIII)V" } : MethodName)) ∈ bs_B := bs_in (i := 580) rfl rfl
set_option maxRecDepth 20000 in
theorem wm_581 : (Cond.code ({ cls := "CycleShopModel", name := "does", desc := "(IIII)V" } : MethodName) prog_11_method_18_code (5 : Nat) (Option.none : Option FieldType)) ∈ bs_B := bs_in (i := 581) rfl rfl
set_option maxRecDepth 20000 in
theorem wm_582 : (Cond.methodLink "CycleShopModel" (110 : Nat) ({ cls := "CycleShopModel", name := "build", desc := "(II)V" } : MethodName)) ∈ bs_B := bs_in (i := 582) rfl rfl
set_option maxRecDepth 20000 in
theorem wm_584 : (Cond.instanceMethod ({ cls := "CycleShopModel", name := "build", desc := "(II)V" } : MethodName)) ∈ bs_B := bs_in (i := 584) rfl rfl
set_option maxRecDepth 20000 in
theorem wm_585 : (Cond.code ({ cls := "CycleShopModel", name := "build", desc := "(II)V" } : MethodName) prog_11_method_7_code (3 : Nat) (Option.none : Option FieldType)) ∈ bs_B := bs_in (i := 585) rfl rfl
set_option maxRecDepth 20000 in
theorem wm_586 : (Cond.methodLink "CycleShopModel" (93 : Nat) ({ cls := "CycleShopModel", name := "strip", desc := "(I)V" } : MethodName)) ∈ bs_B := bs_in (i := 586) rfl rfl
set_option maxRecDepth 20000 in
theorem wm_588 : (Cond.instanceMethod ({ cls := "CycleShopModel", name := "strip", desc := "(I)V" } : MethodName)) ∈ bs_B := bs_in (i := 588) rfl rfl
set_option maxRecDepth 20000 in
theorem wm_589 : (Cond.code ({ cls := "CycleShopModel", name := "strip", desc := "(I)V" } : MethodName) prog_11_method_8_code (2 : Nat) (Option.none : Option FieldType)) ∈ bs_B := bs_in (i := 589) rfl rfl
set_option maxRecDepth 20000 in
theorem wm_590 : (Cond.methodLink "CycleShopModel" (114 : Nat) ({ cls := "CycleShopModel", name := "fit", desc := "(III)V" } : MethodName)) ∈ bs_B := bs_in (i := 590) rfl rfl
set_option maxRecDepth 20000 in
theorem wm_592 : (Cond.instanceMethod ({ cls := "CycleShopModel", name := "fit", desc := "(III)V" } : MethodName)) ∈ bs_B := bs_in (i := 592) rfl rfl
set_option maxRecDepth 20000 in
theorem wm_593 : (Cond.code ({ cls := "CycleShopModel", name := "fit", desc := "(III)V" } : MethodName) prog_11_method_9_code (5 : Nat) (Option.none : Option FieldType)) ∈ bs_B := bs_in (i := 593) rfl rfl
set_option maxRecDepth 20000 in
theorem wm_594 : (Cond.methodLink "CycleShopModel" (97 : Nat) ({ cls := "CycleShopModel", name := "fails", desc := "(I)V" } : MethodName)) ∈ bs_B := bs_in (i := 594) rfl rfl
set_option maxRecDepth 20000 in
theorem wm_596 : (Cond.instanceMethod ({ cls := "CycleShopModel", name := "fails", desc := "(I)V" } : MethodName)) ∈ bs_B := bs_in (i := 596) rfl rfl
set_option maxRecDepth 20000 in
theorem wm_597 : (Cond.code ({ cls := "CycleShopModel", name := "fails", desc := "(I)V" } : MethodName) prog_11_method_6_code (2 : Nat) (Option.none : Option FieldType)) ∈ bs_B := bs_in (i := 597) rfl rfl
set_option maxRecDepth 20000 in
theorem wm_598 : (Cond.methodLink "CycleShopModel" (100 : Nat) ({ cls := "CycleShopModel", name := "newWheel", desc := "(I)I" } : MethodName)) ∈ bs_B := bs_in (i := 598) rfl rfl
set_option maxRecDepth 20000 in
theorem wm_600 : (Cond.instanceMethod ({ cls := "CycleShopModel", name := "newWheel", desc := "(I)I" } : MethodName)) ∈ bs_B := bs_in (i := 600) rfl rfl
set_option maxRecDepth 20000 in
theorem wm_601 : (Cond.code ({ cls := "CycleShopModel", name := "newWheel", desc := "(I)I" } : MethodName) prog_11_method_5_code (3 : Nat) (Option.some FieldType.int)) ∈ bs_B := bs_in (i := 601) rfl rfl
set_option maxRecDepth 20000 in
theorem wm_602 : (Cond.methodLink "CycleShopModel" (83 : Nat) ({ cls := "CycleShopModel", name := "isUsed", desc := "(I)Z" } : MethodName)) ∈ bs_B := bs_in (i := 602) rfl rfl
set_option maxRecDepth 20000 in
theorem wm_604 : (Cond.instanceMethod ({ cls := "CycleShopModel", name := "isUsed", desc := "(I)Z" } : MethodName)) ∈ bs_B := bs_in (i := 604) rfl rfl
set_option maxRecDepth 20000 in
theorem wm_605 : (Cond.code ({ cls := "CycleShopModel", name := "isUsed", desc := "(I)Z" } : MethodName) prog_11_method_4_code (4 : Nat) (Option.some FieldType.boolean)) ∈ bs_B := bs_in (i := 605) rfl rfl
set_option maxRecDepth 20000 in
theorem wm_606 : (Cond.methodLink "CycleShopModel" (118 : Nat) ({ cls := "CycleShopModel", name := "turn", desc := "(IIZ)V" } : MethodName)) ∈ bs_B := bs_in (i := 606) rfl rfl
set_option maxRecDepth 20000 in
theorem wm_608 : (Cond.instanceMethod ({ cls := "CycleShopModel", name := "turn", desc := "(IIZ)V" } : MethodName)) ∈ bs_B := bs_in (i := 608) rfl rfl
set_option maxRecDepth 20000 in
theorem wm_609 : (Cond.code ({ cls := "CycleShopModel", name := "turn", desc := "(IIZ)V" } : MethodName) prog_11_method_10_code (5 : Nat) (Option.none : Option FieldType)) ∈ bs_B := bs_in (i := 609) rfl rfl
set_option maxRecDepth 20000 in
theorem wm_610 : (Cond.methodLink "CycleShopModel" (122 : Nat) ({ cls := "CycleShopModel", name := "light", desc := "(III)V" } : MethodName)) ∈ bs_B := bs_in (i := 610) rfl rfl
set_option maxRecDepth 20000 in
theorem wm_612 : (Cond.instanceMethod ({ cls := "CycleShopModel", name := "light", desc := "(III)V" } : MethodName)) ∈ bs_B := bs_in (i := 612) rfl rfl
set_option maxRecDepth 20000 in
theorem wm_613 : (Cond.code ({ cls := "CycleShopModel", name := "light", desc := "(III)V" } : MethodName) prog_11_method_11_code (4 : Nat) (Option.none : Option FieldType)) ∈ bs_B := bs_in (i := 613) rfl rfl
set_option maxRecDepth 20000 in
theorem wm_614 : (Cond.methodLink "CycleShopModel" (125 : Nat) ({ cls := "CycleShopModel", name := "shine", desc := "(II)V" } : MethodName)) ∈ bs_B := bs_in (i := 614) rfl rfl
set_option maxRecDepth 20000 in
theorem wm_616 : (Cond.instanceMethod ({ cls := "CycleShopModel", name := "shine", desc := "(II)V" } : MethodName)) ∈ bs_B := bs_in (i := 616) rfl rfl
set_option maxRecDepth 20000 in
theorem wm_617 : (Cond.code ({ cls := "CycleShopModel", name := "shine", desc := "(II)V" } : MethodName) prog_11_method_12_code (3 : Nat) (Option.none : Option FieldType)) ∈ bs_B := bs_in (i := 617) rfl rfl
set_option maxRecDepth 20000 in
theorem wm_618 : (Cond.methodLink "CycleShopModel" (128 : Nat) ({ cls := "CycleShopModel", name := "make", desc := "(IIII)V" } : MethodName)) ∈ bs_B := bs_in (i := 618) rfl rfl
set_option maxRecDepth 20000 in
theorem wm_620 : (Cond.instanceMethod ({ cls := "CycleShopModel", name := "make", desc := "(IIII)V" } : MethodName)) ∈ bs_B := bs_in (i := 620) rfl rfl
set_option maxRecDepth 20000 in
theorem wm_621 : (Cond.code ({ cls := "CycleShopModel", name := "make", desc := "(IIII)V" } : MethodName) prog_11_method_13_code (6 : Nat) (Option.none : Option FieldType)) ∈ bs_B := bs_in (i := 621) rfl rfl
set_option maxRecDepth 20000 in
theorem wm_622 : (Cond.methodLink "CycleShopModel" (132 : Nat) ({ cls := "CycleShopModel", name := "measure", desc := "(III)V" } : MethodName)) ∈ bs_B := bs_in (i := 622) rfl rfl
set_option maxRecDepth 20000 in
theorem wm_624 : (Cond.instanceMethod ({ cls := "CycleShopModel", name := "measure", desc := "(III)V" } : MethodName)) ∈ bs_B := bs_in (i := 624) rfl rfl
set_option maxRecDepth 20000 in
theorem wm_625 : (Cond.code ({ cls := "CycleShopModel", name := "measure", desc := "(III)V" } : MethodName) prog_11_method_14_code (5 : Nat) (Option.none : Option FieldType)) ∈ bs_B := bs_in (i := 625) rfl rfl
set_option maxRecDepth 20000 in
theorem wm_626 : (Cond.constantLong "CycleShopModel" (104 : Nat) (2 : Int64)) ∈ bs_B := bs_in (i := 626) rfl rfl
set_option maxRecDepth 20000 in
theorem wm_627 : (Cond.methodLink "CycleShopModel" (106 : Nat) ({ cls := "CycleShopModel", name := "has", desc := "(II)Z" } : MethodName)) ∈ bs_B := bs_in (i := 627) rfl rfl
set_option maxRecDepth 20000 in
theorem wm_629 : (Cond.instanceMethod ({ cls := "CycleShopModel", name := "has", desc := "(II)Z" } : MethodName)) ∈ bs_B := bs_in (i := 629) rfl rfl
set_option maxRecDepth 20000 in
theorem wm_630 : (Cond.code ({ cls := "CycleShopModel", name := "has", desc := "(II)Z" } : MethodName) prog_11_method_15_code (3 : Nat) (Option.some FieldType.boolean)) ∈ bs_B := bs_in (i := 630) rfl rfl
set_option maxRecDepth 20000 in
theorem wm_631 : (Cond.methodLink "CycleShopModel" (135 : Nat) ({ cls := "CycleShopModel", name := "hang", desc := "(III)V" } : MethodName)) ∈ bs_B := bs_in (i := 631) rfl rfl
set_option maxRecDepth 20000 in
theorem wm_633 : (Cond.instanceMethod ({ cls := "CycleShopModel", name := "hang", desc := "(III)V" } : MethodName)) ∈ bs_B := bs_in (i := 633) rfl rfl
set_option maxRecDepth 20000 in
theorem wm_634 : (Cond.code ({ cls := "CycleShopModel", name := "hang", desc := "(III)V" } : MethodName) prog_11_method_16_code (5 : Nat) (Option.none : Option FieldType)) ∈ bs_B := bs_in (i := 634) rfl rfl
set_option maxRecDepth 20000 in
theorem wm_635 : (Cond.methodLink "CycleShopModel" (138 : Nat) ({ cls := "CycleShopModel", name := "balance", desc := "(II)V" } : MethodName)) ∈ bs_B := bs_in (i := 635) rfl rfl
set_option maxRecDepth 20000 in
theorem wm_637 : (Cond.instanceMethod ({ cls := "CycleShopModel", name := "balance", desc := "(II)V" } : MethodName)) ∈ bs_B := bs_in (i := 637) rfl rfl
set_option maxRecDepth 20000 in
theorem wm_638 : (Cond.code ({ cls := "CycleShopModel", name := "balance", desc := "(II)V" } : MethodName) prog_11_method_17_code (4 : Nat) (Option.none : Option FieldType)) ∈ bs_B := bs_in (i := 638) rfl rfl
set_option maxRecDepth 20000 in
theorem wm_639 : (Cond.methodLink "CycleShopLaw" (22 : Nat) ({ cls := "CycleShopModel", name := "step", desc := "(IIIIII)I" } : MethodName)) ∈ bs_B := bs_in (i := 639) rfl rfl
set_option maxRecDepth 20000 in
theorem wm_640 : (Cond.instanceMethod ({ cls := "CycleShopModel", name := "step", desc := "(IIIIII)I" } : MethodName)) ∈ bs_B := bs_in (i := 640) rfl rfl
set_option maxRecDepth 20000 in
theorem wm_641 : (Cond.selects "CycleShopModel" ({ cls := "CycleShopModel", name := "step", desc := "(IIIIII)I" } : MethodName) ({ cls := "CycleShopModel", name := "step", desc := "(IIIIII)I" } : MethodName)) ∈ bs_B := bs_in (i := 641) rfl rfl
set_option maxRecDepth 20000 in
theorem wm_642 : (Cond.code ({ cls := "CycleShopModel", name := "step", desc := "(IIIIII)I" } : MethodName) prog_11_method_20_code (8 : Nat) (Option.some FieldType.int)) ∈ bs_B := bs_in (i := 642) rfl rfl
set_option maxRecDepth 20000 in
theorem wm_643 : (Cond.constantLong "CycleShopModel" (150 : Nat) (-1 : Int64)) ∈ bs_B := bs_in (i := 643) rfl rfl
set_option maxRecDepth 20000 in
theorem wm_644 : (Cond.constantLong "CycleShopModel" (152 : Nat) (15 : Int64)) ∈ bs_B := bs_in (i := 644) rfl rfl
set_option maxRecDepth 20000 in
theorem wm_645 : (Cond.methodLink "CycleShopLaw" (27 : Nat) ({ cls := "CycleShopModel", name := "clear", desc := "(I)I" } : MethodName)) ∈ bs_B := bs_in (i := 645) rfl rfl
set_option maxRecDepth 20000 in
theorem wm_646 : (Cond.instanceMethod ({ cls := "CycleShopModel", name := "clear", desc := "(I)I" } : MethodName)) ∈ bs_B := bs_in (i := 646) rfl rfl
set_option maxRecDepth 20000 in
theorem wm_647 : (Cond.selects "CycleShopModel" ({ cls := "CycleShopModel", name := "clear", desc := "(I)I" } : MethodName) ({ cls := "CycleShopModel", name := "clear", desc := "(I)I" } : MethodName)) ∈ bs_B := bs_in (i := 647) rfl rfl
set_option maxRecDepth 20000 in
theorem wm_648 : (Cond.code ({ cls := "CycleShopModel", name := "clear", desc := "(I)I" } : MethodName) prog_11_method_21_code (3 : Nat) (Option.some FieldType.int)) ∈ bs_B := bs_in (i := 648) rfl rfl
set_option maxRecDepth 20000 in
theorem wm_649 : (Cond.methodLink "CycleShopLaw" (32 : Nat) ({ cls := "CycleShopModel", name := "run", desc := "(II)I" } : MethodName)) ∈ bs_B := bs_in (i := 649) rfl rfl
set_option maxRecDepth 20000 in
theorem wm_650 : (Cond.instanceMethod ({ cls := "CycleShopModel", name := "run", desc := "(II)I" } : MethodName)) ∈ bs_B := bs_in (i := 650) rfl rfl
set_option maxRecDepth 20000 in
theorem wm_651 : (Cond.selects "CycleShopModel" ({ cls := "CycleShopModel", name := "run", desc := "(II)I" } : MethodName) ({ cls := "CycleShopModel", name := "run", desc := "(II)I" } : MethodName)) ∈ bs_B := bs_in (i := 651) rfl rfl
set_option maxRecDepth 20000 in
theorem wm_652 : (Cond.code ({ cls := "CycleShopModel", name := "run", desc := "(II)I" } : MethodName) prog_11_method_23_code (6 : Nat) (Option.some FieldType.int)) ∈ bs_B := bs_in (i := 652) rfl rfl
set_option maxRecDepth 20000 in
theorem wm_653 : (Cond.methodLink "CycleShopModel" (170 : Nat) ({ cls := "CycleShopModel", name := "goes", desc := "(II)V" } : MethodName)) ∈ bs_B := bs_in (i := 653) rfl rfl
set_option maxRecDepth 20000 in
theorem wm_655 : (Cond.instanceMethod ({ cls := "CycleShopModel", name := "goes", desc := "(II)V" } : MethodName)) ∈ bs_B := bs_in (i := 655) rfl rfl
set_option maxRecDepth 20000 in
theorem wm_656 : (Cond.code ({ cls := "CycleShopModel", name := "goes", desc := "(II)V" } : MethodName) prog_11_method_22_code (4 : Nat) (Option.none : Option FieldType)) ∈ bs_B := bs_in (i := 656) rfl rfl
set_option maxRecDepth 20000 in
theorem wm_657 : (Cond.methodLink "CycleShopLaw" (36 : Nat) ({ cls := "CycleShopModel", name := "told", desc := "(I)I" } : MethodName)) ∈ bs_B := bs_in (i := 657) rfl rfl
set_option maxRecDepth 20000 in
theorem wm_658 : (Cond.instanceMethod ({ cls := "CycleShopModel", name := "told", desc := "(I)I" } : MethodName)) ∈ bs_B := bs_in (i := 658) rfl rfl
set_option maxRecDepth 20000 in
theorem wm_659 : (Cond.selects "CycleShopModel" ({ cls := "CycleShopModel", name := "told", desc := "(I)I" } : MethodName) ({ cls := "CycleShopModel", name := "told", desc := "(I)I" } : MethodName)) ∈ bs_B := bs_in (i := 659) rfl rfl
set_option maxRecDepth 20000 in
theorem wm_660 : (Cond.code ({ cls := "CycleShopModel", name := "told", desc := "(I)I" } : MethodName) prog_11_method_24_code (2 : Nat) (Option.some FieldType.int)) ∈ bs_B := bs_in (i := 660) rfl rfl
set_option maxRecDepth 20000 in
theorem wm_661 : (Cond.methodLink "CycleShopLaw" (41 : Nat) ({ cls := "CycleShopModel", name := "sum", desc := "()J" } : MethodName)) ∈ bs_B := bs_in (i := 661) rfl rfl
set_option maxRecDepth 20000 in
theorem wm_662 : (Cond.instanceMethod ({ cls := "CycleShopModel", name := "sum", desc := "()J" } : MethodName)) ∈ bs_B := bs_in (i := 662) rfl rfl
set_option maxRecDepth 20000 in
theorem wm_663 : (Cond.selects "CycleShopModel" ({ cls := "CycleShopModel", name := "sum", desc := "()J" } : MethodName) ({ cls := "CycleShopModel", name := "sum", desc := "()J" } : MethodName)) ∈ bs_B := bs_in (i := 663) rfl rfl
set_option maxRecDepth 20000 in
theorem wm_664 : (Cond.code ({ cls := "CycleShopModel", name := "sum", desc := "()J" } : MethodName) prog_11_method_25_code (1 : Nat) (Option.some FieldType.long)) ∈ bs_B := bs_in (i := 664) rfl rfl
set_option maxRecDepth 20000 in
theorem wm_665 : (Cond.methodLink "CycleShopLaw" (45 : Nat) ({ cls := "CycleShopModel", name := "tally", desc := "(I)I" } : MethodName)) ∈ bs_B := bs_in (i := 665) rfl rfl
set_option maxRecDepth 20000 in
theorem wm_666 : (Cond.instanceMethod ({ cls := "CycleShopModel", name := "tally", desc := "(I)I" } : MethodName)) ∈ bs_B := bs_in (i := 666) rfl rfl
set_option maxRecDepth 20000 in
theorem wm_667 : (Cond.selects "CycleShopModel" ({ cls := "CycleShopModel", name := "tally", desc := "(I)I" } : MethodName) ({ cls := "CycleShopModel", name := "tally", desc := "(I)I" } : MethodName)) ∈ bs_B := bs_in (i := 667) rfl rfl
set_option maxRecDepth 20000 in
theorem wm_668 : (Cond.code ({ cls := "CycleShopModel", name := "tally", desc := "(I)I" } : MethodName) prog_11_method_26_code (2 : Nat) (Option.some FieldType.int)) ∈ bs_B := bs_in (i := 668) rfl rfl
set_option maxRecDepth 20000 in
theorem wm_669 : (Cond.constantLong "CycleShopModel" (173 : Nat) (7 : Int64)) ∈ bs_B := bs_in (i := 669) rfl rfl
set_option maxRecDepth 20000 in
theorem wm_670 : (Cond.methodLink "CycleShopLaw" (49 : Nat) ({ cls := "CycleShopModel", name := "stand", desc := "(II)I" } : MethodName)) ∈ bs_B := bs_in (i := 670) rfl rfl
set_option maxRecDepth 20000 in
theorem wm_671 : (Cond.instanceMethod ({ cls := "CycleShopModel", name := "stand", desc := "(II)I" } : MethodName)) ∈ bs_B := bs_in (i := 671) rfl rfl
set_option maxRecDepth 20000 in
theorem wm_672 : (Cond.selects "CycleShopModel" ({ cls := "CycleShopModel", name := "stand", desc := "(II)I" } : MethodName) ({ cls := "CycleShopModel", name := "stand", desc := "(II)I" } : MethodName)) ∈ bs_B := bs_in (i := 672) rfl rfl
set_option maxRecDepth 20000 in
theorem wm_673 : (Cond.code ({ cls := "CycleShopModel", name := "stand", desc := "(II)I" } : MethodName) prog_11_method_28_code (4 : Nat) (Option.some FieldType.int)) ∈ bs_B := bs_in (i := 673) rfl rfl
set_option maxRecDepth 20000 in
theorem wm_674 : (Cond.constant "CycleShopModel" (175 : Nat) (-2147483648 : Int32)) ∈ bs_B := bs_in (i := 674) rfl rfl
set_option maxRecDepth 20000 in
theorem wm_675 : (Cond.methodLink "CycleShopModel" (176 : Nat) ({ cls := "CycleShopModel", name := "hangs", desc := "(I)Z" } : MethodName)) ∈ bs_B := bs_in (i := 675) rfl rfl
set_option maxRecDepth 20000 in
theorem wm_677 : (Cond.instanceMethod ({ cls := "CycleShopModel", name := "hangs", desc := "(I)Z" } : MethodName)) ∈ bs_B := bs_in (i := 677) rfl rfl
set_option maxRecDepth 20000 in
theorem wm_678 : (Cond.code ({ cls := "CycleShopModel", name := "hangs", desc := "(I)Z" } : MethodName) prog_11_method_27_code (4 : Nat) (Option.some FieldType.boolean)) ∈ bs_B := bs_in (i := 678) rfl rfl
set_option maxRecDepth 20000 in
theorem wm_679 : (Cond.methodLink "CycleShopLaw" (53 : Nat) ({ cls := "CycleShopModel", name := "basket", desc := "(II)I" } : MethodName)) ∈ bs_B := bs_in (i := 679) rfl rfl
set_option maxRecDepth 20000 in
theorem wm_680 : (Cond.instanceMethod ({ cls := "CycleShopModel", name := "basket", desc := "(II)I" } : MethodName)) ∈ bs_B := bs_in (i := 680) rfl rfl
set_option maxRecDepth 20000 in
theorem wm_681 : (Cond.selects "CycleShopModel" ({ cls := "CycleShopModel", name := "basket", desc := "(II)I" } : MethodName) ({ cls := "CycleShopModel", name := "basket", desc := "(II)I" } : MethodName)) ∈ bs_B := bs_in (i := 681) rfl rfl
set_option maxRecDepth 20000 in
theorem wm_682 : (Cond.code ({ cls := "CycleShopModel", name := "basket", desc := "(II)I" } : MethodName) prog_11_method_29_code (3 : Nat) (Option.some FieldType.int)) ∈ bs_B := bs_in (i := 682) rfl rfl
set_option maxRecDepth 20000 in
theorem wm_683 : (Cond.methodLink "CycleShopLaw" (57 : Nat) ({ cls := "CycleShopModel", name := "rack", desc := "(II)I" } : MethodName)) ∈ bs_B := bs_in (i := 683) rfl rfl
set_option maxRecDepth 20000 in
theorem wm_684 : (Cond.instanceMethod ({ cls := "CycleShopModel", name := "rack", desc := "(II)I" } : MethodName)) ∈ bs_B := bs_in (i := 684) rfl rfl
set_option maxRecDepth 20000 in
theorem wm_685 : (Cond.selects "CycleShopModel" ({ cls := "CycleShopModel", name := "rack", desc := "(II)I" } : MethodName) ({ cls := "CycleShopModel", name := "rack", desc := "(II)I" } : MethodName)) ∈ bs_B := bs_in (i := 685) rfl rfl
set_option maxRecDepth 20000 in
theorem wm_686 : (Cond.code ({ cls := "CycleShopModel", name := "rack", desc := "(II)I" } : MethodName) prog_11_method_30_code (4 : Nat) (Option.some FieldType.int)) ∈ bs_B := bs_in (i := 686) rfl rfl
set_option maxRecDepth 20000 in
theorem wm_687 : (Cond.methodLink "CycleShopLaw" (62 : Nat) ({ cls := "CycleShopModel", name := "grid", desc := "(III)I" } : MethodName)) ∈ bs_B := bs_in (i := 687) rfl rfl
set_option maxRecDepth 20000 in
theorem wm_688 : (Cond.instanceMethod ({ cls := "CycleShopModel", name := "grid", desc := "(III)I" } : MethodName)) ∈ bs_B := bs_in (i := 688) rfl rfl
set_option maxRecDepth 20000 in
theorem wm_689 : (Cond.selects "CycleShopModel" ({ cls := "CycleShopModel", name := "grid", desc := "(III)I" } : MethodName) ({ cls := "CycleShopModel", name := "grid", desc := "(III)I" } : MethodName)) ∈ bs_B := bs_in (i := 689) rfl rfl
set_option maxRecDepth 20000 in
theorem wm_690 : (Cond.code ({ cls := "CycleShopModel", name := "grid", desc := "(III)I" } : MethodName) prog_11_method_31_code (4 : Nat) (Option.some FieldType.int)) ∈ bs_B := bs_in (i := 690) rfl rfl
theorem mf_X0_init : gF bs_B yX0_init cX0_init 1 none 0 := ⟨wm_117, wm_28, ⟨by decide +kernel, by decide +kernel⟩, by decide +kernel⟩
theorem mf_X0_make : gF bs_B yX0_make cX0_make 2 (some .long) 1 := ⟨wm_283, wm_28, ⟨by decide +kernel, by decide +kernel⟩, by decide +kernel⟩
theorem mf_X0_put : gF bs_B yX0_put cX0_put 4 (some .long) 2 := ⟨wm_315, wm_28, ⟨by decide +kernel, by decide +kernel⟩, by decide +kernel⟩
theorem mf_X0_numberAt : gF bs_B yX0_numberAt cX0_numberAt 2 (some .int) 1 := ⟨wm_455, wm_28, ⟨by decide +kernel, by decide +kernel⟩, by decide +kernel⟩
theorem mf_X1_init : gF bs_B yX1_init cX1_init 1 none 0 := ⟨wm_148, wm_30, ⟨by decide +kernel, by decide +kernel⟩, by decide +kernel⟩
theorem mf_X1_make : gF bs_B yX1_make cX1_make 3 (some .long) 2 := ⟨wm_296, wm_30, ⟨by decide +kernel, by decide +kernel⟩, by decide +kernel⟩
theorem mf_X1_has : gF bs_B yX1_has cX1_has 3 (some .boolean) 2 := ⟨wm_324, wm_30, ⟨by decide +kernel, by decide +kernel⟩, by decide +kernel⟩
theorem mf_X1_rowLength : gF bs_B yX1_rowLength cX1_rowLength 2 (some .long) 1 := ⟨wm_310, wm_30, ⟨by decide +kernel, by decide +kernel⟩, by decide +kernel⟩
theorem mf_X1_addOne : gF bs_B yX1_addOne cX1_addOne 4 (some .long) 2 := ⟨wm_320, wm_30, ⟨by decide +kernel, by decide +kernel⟩, by decide +kernel⟩
theorem mf_X1_numberAt : gF bs_B yX1_numberAt cX1_numberAt 3 (some .int) 2 := ⟨wm_472, wm_30, ⟨by decide +kernel, by decide +kernel⟩, by decide +kernel⟩
theorem mf_X2_init : gF bs_B yX2_init cX2_init 1 none 0 := ⟨wm_164, wm_31, ⟨by decide +kernel, by decide +kernel⟩, by decide +kernel⟩
theorem mf_X2_append : gF bs_B yX2_append cX2_append 2 (some .int) 1 := ⟨wm_380, wm_31, ⟨by decide +kernel, by decide +kernel⟩, by decide +kernel⟩
theorem mf_X2_empty : gF bs_B yX2_empty cX2_empty 2 (some .int) 0 := ⟨wm_388, wm_31, ⟨by decide +kernel, by decide +kernel⟩, by decide +kernel⟩
theorem mf_X2_stepAt : gF bs_B yX2_stepAt cX2_stepAt 2 (some (.object "CycleShop$Step")) 1 := ⟨wm_404, wm_31, ⟨by decide +kernel, by decide +kernel⟩, by decide +kernel⟩
theorem mf_X3_init : gF bs_B yX3_init cX3_init 1 none 0 := ⟨wm_130, wm_29, ⟨by decide +kernel, by decide +kernel⟩, by decide +kernel⟩
theorem mf_X3_make : gF bs_B yX3_make cX3_make 4 (some .long) 2 := ⟨wm_291, wm_29, ⟨by decide +kernel, by decide +kernel⟩, by decide +kernel⟩
theorem mf_X3_hang : gF bs_B yX3_hang cX3_hang 4 (some .long) 2 := ⟨wm_328, wm_29, ⟨by decide +kernel, by decide +kernel⟩, by decide +kernel⟩
theorem mf_X3_balance : gF bs_B yX3_balance cX3_balance 3 (some .long) 1 := ⟨wm_333, wm_29, ⟨by decide +kernel, by decide +kernel⟩, by decide +kernel⟩
theorem mf_X3_wheelAt : gF bs_B yX3_wheelAt cX3_wheelAt 2 (some (.object "CycleShop$Wheel")) 1 := ⟨wm_463, wm_29, ⟨by decide +kernel, by decide +kernel⟩, by decide +kernel⟩
theorem mf_X3_holds : gF bs_B yX3_holds cX3_holds 4 (some .boolean) 1 := ⟨wm_442, wm_29, ⟨by decide +kernel, by decide +kernel⟩, by decide +kernel⟩
theorem mf_X4_init : gF bs_B yX4_init cX4_init 1 none 0 := ⟨wm_58, wm_26, ⟨by decide +kernel, by decide +kernel⟩, by decide +kernel⟩
theorem mf_X4_restart : gF bs_B yX4_restart cX4_restart 1 none 0 := ⟨wm_396, wm_26, ⟨by decide +kernel, by decide +kernel⟩, by decide +kernel⟩
theorem mf_X4_addAnswer : gF bs_B yX4_addAnswer cX4_addAnswer 3 none 1 := ⟨wm_413, wm_26, ⟨by decide +kernel, by decide +kernel⟩, by decide +kernel⟩
theorem mf_X4_addFailure : gF bs_B yX4_addFailure cX4_addFailure 3 none 2 := ⟨wm_409, wm_26, ⟨by decide +kernel, by decide +kernel⟩, by decide +kernel⟩
theorem mf_X5_init : gF bs_B yX5_init cX5_init 1 none 0 := ⟨wm_89, wm_27, ⟨by decide +kernel, by decide +kernel⟩, by decide +kernel⟩
theorem mf_X5_build : gF bs_B yX5_build cX5_build 2 (some .long) 1 := ⟨wm_222, wm_27, ⟨by decide +kernel, by decide +kernel⟩, by decide +kernel⟩
theorem mf_X5_strip : gF bs_B yX5_strip cX5_strip 1 (some .long) 0 := ⟨wm_226, wm_27, ⟨by decide +kernel, by decide +kernel⟩, by decide +kernel⟩
theorem mf_X5_wheel : gF bs_B yX5_wheel cX5_wheel 2 (some (.object "CycleShop$Wheel")) 1 := ⟨wm_263, wm_27, ⟨by decide +kernel, by decide +kernel⟩, by decide +kernel⟩
theorem mf_X5_fit : gF bs_B yX5_fit cX5_fit 5 (some .long) 2 := ⟨wm_231, wm_27, ⟨by decide +kernel, by decide +kernel⟩, by decide +kernel⟩
theorem mf_X5_trueWheel : gF bs_B yX5_trueWheel cX5_trueWheel 3 (some .long) 1 := ⟨wm_259, wm_27, ⟨by decide +kernel, by decide +kernel⟩, by decide +kernel⟩
theorem mf_X5_countSpokes : gF bs_B yX5_countSpokes cX5_countSpokes 3 (some .long) 1 := ⟨wm_271, wm_27, ⟨by decide +kernel, by decide +kernel⟩, by decide +kernel⟩
theorem mf_X5_light : gF bs_B yX5_light cX5_light 3 (some .long) 2 := ⟨wm_275, wm_27, ⟨by decide +kernel, by decide +kernel⟩, by decide +kernel⟩
theorem mf_X5_shine : gF bs_B yX5_shine cX5_shine 2 (some .long) 1 := ⟨wm_279, wm_27, ⟨by decide +kernel, by decide +kernel⟩, by decide +kernel⟩
theorem mf_X5_tell : gF bs_B yX5_tell cX5_tell 2 (some .int) 1 := ⟨wm_446, wm_27, ⟨by decide +kernel, by decide +kernel⟩, by decide +kernel⟩
theorem mf_X6_init : gF bs_B yX6_init cX6_init 6 none 5 := ⟨wm_354, wm_35, ⟨by decide +kernel, by decide +kernel⟩, by decide +kernel⟩
theorem mf_X7_init : gF bs_B yX7_init cX7_init 3 none 2 := ⟨wm_240, wm_33, ⟨by decide +kernel, by decide +kernel⟩, by decide +kernel⟩
theorem mf_X7_turn : gF bs_B yX7_turn cX7_turn 1 (some .int) 0 := ⟨wm_267, wm_33, ⟨by decide +kernel, by decide +kernel⟩, by decide +kernel⟩
theorem mf_X7_label : gF bs_B yX7_label cX7_label 1 (some .int) 0 := ⟨wm_337, wm_33, ⟨by decide +kernel, by decide +kernel⟩, by decide +kernel⟩
theorem mf_X8_init : gF bs_B yX8_init cX8_init 2 none 0 := ⟨wm_40, wm_25, ⟨by decide +kernel, by decide +kernel⟩, by decide +kernel⟩
theorem mf_X8_act : gF bs_B yX8_act cX8_act 5 (some .long) 4 := ⟨wm_204, wm_25, ⟨by decide +kernel, by decide +kernel⟩, by decide +kernel⟩
theorem mf_X8_step : gF bs_B yX8_step cX8_step 8 (some .int) 6 := ⟨wm_349, wm_25, ⟨by decide +kernel, by decide +kernel⟩, by decide +kernel⟩
theorem mf_X8_clear : gF bs_B yX8_clear cX8_clear 2 (some .int) 1 := ⟨wm_384, wm_25, ⟨by decide +kernel, by decide +kernel⟩, by decide +kernel⟩
theorem mf_X8_run : gF bs_B yX8_run cX8_run 6 (some .int) 2 := ⟨wm_392, wm_25, ⟨by decide +kernel, by decide +kernel⟩, by decide +kernel⟩
theorem mf_X8_told : gF bs_B yX8_told cX8_told 2 (some .int) 1 := ⟨wm_421, wm_25, ⟨by decide +kernel, by decide +kernel⟩, by decide +kernel⟩
theorem mf_X8_sum : gF bs_B yX8_sum cX8_sum 1 (some .long) 0 := ⟨wm_425, wm_25, ⟨by decide +kernel, by decide +kernel⟩, by decide +kernel⟩
theorem mf_X8_tally : gF bs_B yX8_tally cX8_tally 2 (some .int) 1 := ⟨wm_429, wm_25, ⟨by decide +kernel, by decide +kernel⟩, by decide +kernel⟩
theorem mf_X8_stand : gF bs_B yX8_stand cX8_stand 3 (some .int) 2 := ⟨wm_433, wm_25, ⟨by decide +kernel, by decide +kernel⟩, by decide +kernel⟩
theorem mf_X8_basket : gF bs_B yX8_basket cX8_basket 3 (some .int) 2 := ⟨wm_451, wm_25, ⟨by decide +kernel, by decide +kernel⟩, by decide +kernel⟩
theorem mf_X8_rack : gF bs_B yX8_rack cX8_rack 4 (some .int) 2 := ⟨wm_459, wm_25, ⟨by decide +kernel, by decide +kernel⟩, by decide +kernel⟩
theorem mf_X8_grid : gF bs_B yX8_grid cX8_grid 4 (some .int) 3 := ⟨wm_468, wm_25, ⟨by decide +kernel, by decide +kernel⟩, by decide +kernel⟩
theorem mf_X8_isWithin : gF bs_B yX8_isWithin cX8_isWithin 2 (some .boolean) 2 := ⟨wm_210, wm_25, ⟨by decide +kernel, by decide +kernel⟩, by decide +kernel⟩
theorem mf_X8_failure : gF bs_B yX8_failure cX8_failure 1 (some .long) 1 := ⟨wm_234, wm_25, ⟨by decide +kernel, by decide +kernel⟩, by decide +kernel⟩
theorem mf_X8_reasonOf : gF bs_B yX8_reasonOf cX8_reasonOf 2 (some .int) 1 := ⟨wm_344, wm_25, ⟨by decide +kernel, by decide +kernel⟩, by decide +kernel⟩
theorem mf_X8_isStep : gF bs_B yX8_isStep cX8_isStep 4 (some .boolean) 4 := ⟨wm_207, wm_25, ⟨by decide +kernel, by decide +kernel⟩, by decide +kernel⟩
theorem mf_X8_attempt : gF bs_B yX8_attempt cX8_attempt 8 (some .long) 4 := ⟨wm_214, wm_25, ⟨by decide +kernel, by decide +kernel⟩, by decide +kernel⟩
theorem mf_X8_perform : gF bs_B yX8_perform cX8_perform 5 (some .long) 4 := ⟨wm_218, wm_25, ⟨by decide +kernel, by decide +kernel⟩, by decide +kernel⟩
theorem mf_X8_measure : gF bs_B yX8_measure cX8_measure 4 (some .long) 3 := ⟨wm_302, wm_25, ⟨by decide +kernel, by decide +kernel⟩, by decide +kernel⟩
theorem mf_X8_lengthOrFailure : gF bs_B yX8_lengthOrFailure cX8_lengthOrFailure 1 (some .long) 1 := ⟨wm_305, wm_25, ⟨by decide +kernel, by decide +kernel⟩, by decide +kernel⟩
theorem mf_X8_excuse : gF bs_B yX8_excuse cX8_excuse 3 (some .long) 2 := ⟨wm_341, wm_25, ⟨by decide +kernel, by decide +kernel⟩, by decide +kernel⟩
theorem mf_X8_isDone : gF bs_B yX8_isDone cX8_isDone 7 (some .boolean) 2 := ⟨wm_400, wm_25, ⟨by decide +kernel, by decide +kernel⟩, by decide +kernel⟩
theorem mf_X8_isDoneInStead : gF bs_B yX8_isDoneInStead cX8_isDoneInStead 4 (some .boolean) 2 := ⟨wm_417, wm_25, ⟨by decide +kernel, by decide +kernel⟩, by decide +kernel⟩
theorem mf_X8_hanging : gF bs_B yX8_hanging cX8_hanging 4 (some .int) 1 := ⟨wm_438, wm_25, ⟨by decide +kernel, by decide +kernel⟩, by decide +kernel⟩
theorem mf_X9_init : gF bs_B yX9_init cX9_init 2 none 0 := ⟨wm_477, wm_32, ⟨by decide +kernel, by decide +kernel⟩, by decide +kernel⟩
theorem mf_X9_in : gF bs_B yX9_in cX9_in 6 (some .boolean) 3 := ⟨wm_575, wm_32, ⟨by decide +kernel, by decide +kernel⟩, by decide +kernel⟩
theorem mf_X9_isStep : gF bs_B yX9_isStep cX9_isStep 4 (some .boolean) 4 := ⟨wm_571, wm_32, ⟨by decide +kernel, by decide +kernel⟩, by decide +kernel⟩
theorem mf_X9_isUsed : gF bs_B yX9_isUsed cX9_isUsed 4 (some .boolean) 1 := ⟨wm_605, wm_32, ⟨by decide +kernel, by decide +kernel⟩, by decide +kernel⟩
theorem mf_X9_newWheel : gF bs_B yX9_newWheel cX9_newWheel 3 (some .int) 1 := ⟨wm_601, wm_32, ⟨by decide +kernel, by decide +kernel⟩, by decide +kernel⟩
theorem mf_X9_fails : gF bs_B yX9_fails cX9_fails 2 none 1 := ⟨wm_597, wm_32, ⟨by decide +kernel, by decide +kernel⟩, by decide +kernel⟩
theorem mf_X9_build : gF bs_B yX9_build cX9_build 3 none 2 := ⟨wm_585, wm_32, ⟨by decide +kernel, by decide +kernel⟩, by decide +kernel⟩
theorem mf_X9_strip : gF bs_B yX9_strip cX9_strip 2 none 1 := ⟨wm_589, wm_32, ⟨by decide +kernel, by decide +kernel⟩, by decide +kernel⟩
theorem mf_X9_fit : gF bs_B yX9_fit cX9_fit 5 none 3 := ⟨wm_593, wm_32, ⟨by decide +kernel, by decide +kernel⟩, by decide +kernel⟩
theorem mf_X9_turn : gF bs_B yX9_turn cX9_turn 5 none 3 := ⟨wm_609, wm_32, ⟨by decide +kernel, by decide +kernel⟩, by decide +kernel⟩
theorem mf_X9_light : gF bs_B yX9_light cX9_light 4 none 3 := ⟨wm_613, wm_32, ⟨by decide +kernel, by decide +kernel⟩, by decide +kernel⟩
theorem mf_X9_shine : gF bs_B yX9_shine cX9_shine 3 none 2 := ⟨wm_617, wm_32, ⟨by decide +kernel, by decide +kernel⟩, by decide +kernel⟩
theorem mf_X9_make : gF bs_B yX9_make cX9_make 6 none 4 := ⟨wm_621, wm_32, ⟨by decide +kernel, by decide +kernel⟩, by decide +kernel⟩
theorem mf_X9_measure : gF bs_B yX9_measure cX9_measure 5 none 3 := ⟨wm_625, wm_32, ⟨by decide +kernel, by decide +kernel⟩, by decide +kernel⟩
theorem mf_X9_has : gF bs_B yX9_has cX9_has 3 (some .boolean) 2 := ⟨wm_630, wm_32, ⟨by decide +kernel, by decide +kernel⟩, by decide +kernel⟩
theorem mf_X9_hang : gF bs_B yX9_hang cX9_hang 5 none 3 := ⟨wm_634, wm_32, ⟨by decide +kernel, by decide +kernel⟩, by decide +kernel⟩
theorem mf_X9_balance : gF bs_B yX9_balance cX9_balance 4 none 2 := ⟨wm_638, wm_32, ⟨by decide +kernel, by decide +kernel⟩, by decide +kernel⟩
theorem mf_X9_does : gF bs_B yX9_does cX9_does 5 none 4 := ⟨wm_581, wm_32, ⟨by decide +kernel, by decide +kernel⟩, by decide +kernel⟩
theorem mf_X9_act : gF bs_B yX9_act cX9_act 5 (some .long) 4 := ⟨wm_568, wm_32, ⟨by decide +kernel, by decide +kernel⟩, by decide +kernel⟩
theorem mf_X9_step : gF bs_B yX9_step cX9_step 8 (some .int) 6 := ⟨wm_642, wm_32, ⟨by decide +kernel, by decide +kernel⟩, by decide +kernel⟩
theorem mf_X9_clear : gF bs_B yX9_clear cX9_clear 3 (some .int) 1 := ⟨wm_648, wm_32, ⟨by decide +kernel, by decide +kernel⟩, by decide +kernel⟩
theorem mf_X9_goes : gF bs_B yX9_goes cX9_goes 4 none 2 := ⟨wm_656, wm_32, ⟨by decide +kernel, by decide +kernel⟩, by decide +kernel⟩
theorem mf_X9_run : gF bs_B yX9_run cX9_run 6 (some .int) 2 := ⟨wm_652, wm_32, ⟨by decide +kernel, by decide +kernel⟩, by decide +kernel⟩
theorem mf_X9_told : gF bs_B yX9_told cX9_told 2 (some .int) 1 := ⟨wm_660, wm_32, ⟨by decide +kernel, by decide +kernel⟩, by decide +kernel⟩
theorem mf_X9_sum : gF bs_B yX9_sum cX9_sum 1 (some .long) 0 := ⟨wm_664, wm_32, ⟨by decide +kernel, by decide +kernel⟩, by decide +kernel⟩
theorem mf_X9_tally : gF bs_B yX9_tally cX9_tally 2 (some .int) 1 := ⟨wm_668, wm_32, ⟨by decide +kernel, by decide +kernel⟩, by decide +kernel⟩
theorem mf_X9_hangs : gF bs_B yX9_hangs cX9_hangs 4 (some .boolean) 1 := ⟨wm_678, wm_32, ⟨by decide +kernel, by decide +kernel⟩, by decide +kernel⟩
theorem mf_X9_stand : gF bs_B yX9_stand cX9_stand 4 (some .int) 2 := ⟨wm_673, wm_32, ⟨by decide +kernel, by decide +kernel⟩, by decide +kernel⟩
theorem mf_X9_basket : gF bs_B yX9_basket cX9_basket 3 (some .int) 2 := ⟨wm_682, wm_32, ⟨by decide +kernel, by decide +kernel⟩, by decide +kernel⟩
theorem mf_X9_rack : gF bs_B yX9_rack cX9_rack 4 (some .int) 2 := ⟨wm_686, wm_32, ⟨by decide +kernel, by decide +kernel⟩, by decide +kernel⟩
theorem mf_X9_grid : gF bs_B yX9_grid cX9_grid 4 (some .int) 3 := ⟨wm_690, wm_32, ⟨by decide +kernel, by decide +kernel⟩, by decide +kernel⟩
theorem mf_J7_fill_53178 : gF bs_B yJ7_fill_53178 cJ7_fill_53178 4 none 2 := ⟨wm_287, wm_34, ⟨by decide +kernel, by decide +kernel⟩, by decide +kernel⟩
