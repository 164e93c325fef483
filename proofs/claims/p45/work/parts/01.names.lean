-- ===== PART A: goes FIRST, ahead of the names: the tables' words, and 'selects' of the private methods out of them =====
/-- a private method of a class that the tables say can be made, by its rows of tables_1 -/
def lw_okq (q : MethodName × Nat) : Prop := (q.1.cls ≠ "java/lang/invoke/MethodHandle" ∧ q.1.cls ≠ "java/lang/invoke/VarHandle") ∧ Cond.instantiable q.1.cls q.2 ∈ tables_1 ∧ Cond.privateMethod q.1 ∈ tables_1 ∧ Cond.instanceMethod q.1 ∈ tables_1
theorem lw_p0 : lw_okq (⟨"DrawerGloves$Glove", "goesOn", "(I)Z"⟩, 6) := ⟨⟨by decide +kernel, by decide +kernel⟩, List.mem_of_getElem? (i := 103) (by decide +kernel), List.mem_of_getElem? (i := 327) (by decide +kernel), List.mem_of_getElem? (i := 328) (by decide +kernel)⟩
theorem lw_p1 : lw_okq (⟨"DrawerGloves$Drawer", "carryOut", "(III)V"⟩, 4) := ⟨⟨by decide +kernel, by decide +kernel⟩, List.mem_of_getElem? (i := 80) (by decide +kernel), List.mem_of_getElem? (i := 364) (by decide +kernel), List.mem_of_getElem? (i := 365) (by decide +kernel)⟩
theorem lw_p2 : lw_okq (⟨"DrawerGloves", "finds", "(I)I"⟩, 13) := ⟨⟨by decide +kernel, by decide +kernel⟩, List.mem_of_getElem? (i := 16) (by decide +kernel), List.mem_of_getElem? (i := 415) (by decide +kernel), List.mem_of_getElem? (i := 416) (by decide +kernel)⟩
theorem lw_p3 : lw_okq (⟨"DrawerGloves$Makings", "weighWith", "(II)V"⟩, 4) := ⟨⟨by decide +kernel, by decide +kernel⟩, List.mem_of_getElem? (i := 172) (by decide +kernel), List.mem_of_getElem? (i := 428) (by decide +kernel), List.mem_of_getElem? (i := 429) (by decide +kernel)⟩
theorem lw_p4 : lw_okq (⟨"DrawerGloves$Makings", "isSafer", "(LDrawerGloves$Drawer;II)Z"⟩, 4) := ⟨⟨by decide +kernel, by decide +kernel⟩, List.mem_of_getElem? (i := 172) (by decide +kernel), List.mem_of_getElem? (i := 439) (by decide +kernel), List.mem_of_getElem? (i := 440) (by decide +kernel)⟩
theorem lw_p5 : lw_okq (⟨"DrawerGloves$Drawer", "wearFirstPair", "()V"⟩, 4) := ⟨⟨by decide +kernel, by decide +kernel⟩, List.mem_of_getElem? (i := 80) (by decide +kernel), List.mem_of_getElem? (i := 469) (by decide +kernel), List.mem_of_getElem? (i := 470) (by decide +kernel)⟩
theorem lw_p6 : lw_okq (⟨"DrawerGloves", "howManyKept", "()I"⟩, 13) := ⟨⟨by decide +kernel, by decide +kernel⟩, List.mem_of_getElem? (i := 16) (by decide +kernel), List.mem_of_getElem? (i := 504) (by decide +kernel), List.mem_of_getElem? (i := 505) (by decide +kernel)⟩
theorem lw_p7 : lw_okq (⟨"DrawerGloves", "refusedPlace", "(II)I"⟩, 13) := ⟨⟨by decide +kernel, by decide +kernel⟩, List.mem_of_getElem? (i := 16) (by decide +kernel), List.mem_of_getElem? (i := 556) (by decide +kernel), List.mem_of_getElem? (i := 557) (by decide +kernel)⟩
theorem lw_p8 : lw_okq (⟨"DrawerGloves", "refusedRow", "(I)I"⟩, 13) := ⟨⟨by decide +kernel, by decide +kernel⟩, List.mem_of_getElem? (i := 16) (by decide +kernel), List.mem_of_getElem? (i := 560) (by decide +kernel), List.mem_of_getElem? (i := 561) (by decide +kernel)⟩
theorem lw_p9 : lw_okq (⟨"DrawerGloves", "tells", "(I)I"⟩, 13) := ⟨⟨by decide +kernel, by decide +kernel⟩, List.mem_of_getElem? (i := 16) (by decide +kernel), List.mem_of_getElem? (i := 571) (by decide +kernel), List.mem_of_getElem? (i := 572) (by decide +kernel)⟩
theorem lw_p10 : lw_okq (⟨"DrawerGloves", "refusedText", "(I)I"⟩, 13) := ⟨⟨by decide +kernel, by decide +kernel⟩, List.mem_of_getElem? (i := 16) (by decide +kernel), List.mem_of_getElem? (i := 620) (by decide +kernel), List.mem_of_getElem? (i := 621) (by decide +kernel)⟩
theorem lw_p11 : lw_okq (⟨"DrawerGloves$Reading", "faultOfGlove", "(LDrawerGloves$Rows;II)I"⟩, 6) := ⟨⟨by decide +kernel, by decide +kernel⟩, List.mem_of_getElem? (i := 49) (by decide +kernel), List.mem_of_getElem? (i := 641) (by decide +kernel), List.mem_of_getElem? (i := 642) (by decide +kernel)⟩
theorem lw_p12 : lw_okq (⟨"DrawerGloves$Makings", "firstMate", "(LDrawerGloves$Drawer;II)I"⟩, 4) := ⟨⟨by decide +kernel, by decide +kernel⟩, List.mem_of_getElem? (i := 172) (by decide +kernel), List.mem_of_getElem? (i := 714) (by decide +kernel), List.mem_of_getElem? (i := 715) (by decide +kernel)⟩
theorem lw_p13 : lw_okq (⟨"DrawerGloves$Calendar", "gather", "(LDrawerGloves$Drawer;)V"⟩, 7) := ⟨⟨by decide +kernel, by decide +kernel⟩, List.mem_of_getElem? (i := 195) (by decide +kernel), List.mem_of_getElem? (i := 726) (by decide +kernel), List.mem_of_getElem? (i := 727) (by decide +kernel)⟩
theorem lw_p14 : lw_okq (⟨"DrawerGloves", "refusedGuess", "(II)I"⟩, 13) := ⟨⟨by decide +kernel, by decide +kernel⟩, List.mem_of_getElem? (i := 16) (by decide +kernel), List.mem_of_getElem? (i := 747) (by decide +kernel), List.mem_of_getElem? (i := 748) (by decide +kernel)⟩
theorem lw_p15 : lw_okq (⟨"DrawerGloves$Guess", "agrees", "(LDrawerGloves$Drawer;LDrawerGloves$Rows;I)Z"⟩, 2) := ⟨⟨by decide +kernel, by decide +kernel⟩, List.mem_of_getElem? (i := 225) (by decide +kernel), List.mem_of_getElem? (i := 762) (by decide +kernel), List.mem_of_getElem? (i := 763) (by decide +kernel)⟩
def lw_privs_1 : List (MethodName × Nat) := [(⟨"DrawerGloves$Glove", "goesOn", "(I)Z"⟩, 6), (⟨"DrawerGloves$Drawer", "carryOut", "(III)V"⟩, 4), (⟨"DrawerGloves", "finds", "(I)I"⟩, 13), (⟨"DrawerGloves$Makings", "weighWith", "(II)V"⟩, 4), (⟨"DrawerGloves$Makings", "isSafer", "(LDrawerGloves$Drawer;II)Z"⟩, 4), (⟨"DrawerGloves$Drawer", "wearFirstPair", "()V"⟩, 4), (⟨"DrawerGloves", "howManyKept", "()I"⟩, 13), (⟨"DrawerGloves", "refusedPlace", "(II)I"⟩, 13), (⟨"DrawerGloves", "refusedRow", "(I)I"⟩, 13), (⟨"DrawerGloves", "tells", "(I)I"⟩, 13), (⟨"DrawerGloves", "refusedText", "(I)I"⟩, 13), (⟨"DrawerGloves$Reading", "faultOfGlove", "(LDrawerGloves$Rows;II)I"⟩, 6), (⟨"DrawerGloves$Makings", "firstMate", "(LDrawerGloves$Drawer;II)I"⟩, 4), (⟨"DrawerGloves$Calendar", "gather", "(LDrawerGloves$Drawer;)V"⟩, 7), (⟨"DrawerGloves", "refusedGuess", "(II)I"⟩, 13), (⟨"DrawerGloves$Guess", "agrees", "(LDrawerGloves$Drawer;LDrawerGloves$Rows;I)Z"⟩, 2)]
theorem lw_r1 : ∀ q ∈ lw_privs_1, lw_okq q := List.forall_mem_cons.mpr ⟨lw_p0, List.forall_mem_cons.mpr ⟨lw_p1, List.forall_mem_cons.mpr ⟨lw_p2, List.forall_mem_cons.mpr ⟨lw_p3, List.forall_mem_cons.mpr ⟨lw_p4, List.forall_mem_cons.mpr ⟨lw_p5, List.forall_mem_cons.mpr ⟨lw_p6, List.forall_mem_cons.mpr ⟨lw_p7, List.forall_mem_cons.mpr ⟨lw_p8, List.forall_mem_cons.mpr ⟨lw_p9, List.forall_mem_cons.mpr ⟨lw_p10, List.forall_mem_cons.mpr ⟨lw_p11, List.forall_mem_cons.mpr ⟨lw_p12, List.forall_mem_cons.mpr ⟨lw_p13, List.forall_mem_cons.mpr ⟨lw_p14, List.forall_mem_cons.mpr ⟨lw_p15, fun _ h => absurd h List.not_mem_nil⟩⟩⟩⟩⟩⟩⟩⟩⟩⟩⟩⟩⟩⟩⟩⟩
theorem lw_p16 : lw_okq (⟨"DrawerGloves$Guess", "howManyLike", "(II)I"⟩, 2) := ⟨⟨by decide +kernel, by decide +kernel⟩, List.mem_of_getElem? (i := 225) (by decide +kernel), List.mem_of_getElem? (i := 794) (by decide +kernel), List.mem_of_getElem? (i := 795) (by decide +kernel)⟩
theorem lw_p17 : lw_okq (⟨"DrawerGloves$Chances", "waysTo", "(LDrawerGloves$Drawer;II)J"⟩, 3) := ⟨⟨by decide +kernel, by decide +kernel⟩, List.mem_of_getElem? (i := 253) (by decide +kernel), List.mem_of_getElem? (i := 836) (by decide +kernel), List.mem_of_getElem? (i := 837) (by decide +kernel)⟩
theorem lw_p18 : lw_okq (⟨"DrawerGloves", "greatestChange", "(I)I"⟩, 13) := ⟨⟨by decide +kernel, by decide +kernel⟩, List.mem_of_getElem? (i := 16) (by decide +kernel), List.mem_of_getElem? (i := 861) (by decide +kernel), List.mem_of_getElem? (i := 862) (by decide +kernel)⟩
def lw_privs_2 : List (MethodName × Nat) := [(⟨"DrawerGloves$Guess", "howManyLike", "(II)I"⟩, 2), (⟨"DrawerGloves$Chances", "waysTo", "(LDrawerGloves$Drawer;II)J"⟩, 3), (⟨"DrawerGloves", "greatestChange", "(I)I"⟩, 13)]
theorem lw_r2 : ∀ q ∈ lw_privs_2, lw_okq q := List.forall_mem_cons.mpr ⟨lw_p16, List.forall_mem_cons.mpr ⟨lw_p17, List.forall_mem_cons.mpr ⟨lw_p18, fun _ h => absurd h List.not_mem_nil⟩⟩⟩
def lw_privs : List (MethodName × Nat) := lw_privs_1 ++ (lw_privs_2)
def lw_tbl : List Cond := k2_sels lw_privs ++ tables_1
theorem lw_privs_ok : ∀ q ∈ lw_privs, lw_okq q := by
  show ∀ q ∈ lw_privs_1 ++ (lw_privs_2), lw_okq q
  exact List.forall_mem_append.mpr ⟨lw_r1, lw_r2⟩
-- ===== end of PART A; then your names; then what follows =====
def RX0 : String := "DrawerGloves$Calendar"
def TX0 : u_T := fun k => match k with
  | 0 => ("DrawerGloves$Calendar", "worn", "LDrawerGloves$Drawer;", true)
  | 1 => ("DrawerGloves$Calendar", "codes", "[I", true)
  | 2 => ("DrawerGloves$Calendar", "way", "[I", true)
  | 3 => ("DrawerGloves$Calendar", "bestWay", "[I", true)
  | 4 => ("DrawerGloves$Calendar", "size", "I", false)
  | 5 => ("DrawerGloves$Calendar", "dearest", "I", false)
  | _ => ("DrawerGloves$Calendar", "best", "I", false)
def tyX0 : Nat → FieldType := fun k => match k with
  | 0 => .object "DrawerGloves$Drawer"
  | 1 => .array .int
  | 2 => .array .int
  | 3 => .array .int
  | 4 => .int
  | 5 => .int
  | _ => .int
theorem nmX0 : ∀ a, a < 7 → ∀ b, b < 7 → a ≠ b → (TX0 a).2.1 ≠ (TX0 b).2.1 := by decide +kernel
theorem tyX0_ok : ∀ k, k < 7 → parseFieldDescriptor (TX0 k).2.2.1 = some (tyX0 k) := by decide +kernel
abbrev cX0_init : ByteArray := prog_2_method_1_code
def yX0_init : MethodName := ⟨RX0, "<init>", "()V"⟩
abbrev cX0_plan : ByteArray := prog_2_method_2_code
def yX0_plan : MethodName := ⟨RX0, "plan", "(LDrawerGloves$Drawer;ILDrawerGloves$Rows;I)I"⟩
abbrev cX0_gather : ByteArray := prog_2_method_3_code
def yX0_gather : MethodName := ⟨RX0, "gather", "(LDrawerGloves$Drawer;)V"⟩
abbrev cX0_search : ByteArray := prog_2_method_4_code
def yX0_search : MethodName := ⟨RX0, "search", "(LDrawerGloves$Calendar;III)V"⟩
def RX1 : String := "DrawerGloves$Chances"
def TX1 : u_T := fun k => match k with
  | 0 => ("DrawerGloves$Chances", "loss", "[I", true)
  | 1 => ("DrawerGloves$Chances", "upper", "J", false)
  | _ => ("DrawerGloves$Chances", "lower", "J", false)
def tyX1 : Nat → FieldType := fun k => match k with
  | 0 => .array .int
  | 1 => .long
  | _ => .long
theorem nmX1 : ∀ a, a < 3 → ∀ b, b < 3 → a ≠ b → (TX1 a).2.1 ≠ (TX1 b).2.1 := by decide +kernel
theorem tyX1_ok : ∀ k, k < 3 → parseFieldDescriptor (TX1 k).2.2.1 = some (tyX1 k) := by decide +kernel
abbrev cX1_init : ByteArray := prog_3_method_1_code
def yX1_init : MethodName := ⟨RX1, "<init>", "()V"⟩
abbrev cX1_reckon : ByteArray := prog_3_method_2_code
def yX1_reckon : MethodName := ⟨RX1, "reckon", "(LDrawerGloves$Drawer;II[I)V"⟩
abbrev cX1_lossOf : ByteArray := prog_3_method_3_code
def yX1_lossOf : MethodName := ⟨RX1, "lossOf", "(LDrawerGloves$Glove;II)I"⟩
abbrev cX1_waysTo : ByteArray := prog_3_method_4_code
def yX1_waysTo : MethodName := ⟨RX1, "waysTo", "(LDrawerGloves$Drawer;II)J"⟩
abbrev cX1_commonDivisor : ByteArray := prog_3_method_5_code
def yX1_commonDivisor : MethodName := ⟨RX1, "commonDivisor", "(JJ)J"⟩
def RX2 : String := "DrawerGloves$Deeds"
def TX2 : u_T := fun k => match k with
  | 0 => ("DrawerGloves$Deeds", "codes", "[I", true)
  | _ => ("DrawerGloves$Deeds", "size", "I", false)
def tyX2 : Nat → FieldType := fun k => match k with
  | 0 => .array .int
  | _ => .int
theorem nmX2 : ∀ a, a < 2 → ∀ b, b < 2 → a ≠ b → (TX2 a).2.1 ≠ (TX2 b).2.1 := by decide +kernel
theorem tyX2_ok : ∀ k, k < 2 → parseFieldDescriptor (TX2 k).2.2.1 = some (tyX2 k) := by decide +kernel
abbrev cX2_init : ByteArray := prog_4_method_1_code
def yX2_init : MethodName := ⟨RX2, "<init>", "()V"⟩
abbrev cX2_roomLeft : ByteArray := prog_4_method_2_code
def yX2_roomLeft : MethodName := ⟨RX2, "roomLeft", "()I"⟩
abbrev cX2_add : ByteArray := prog_4_method_3_code
def yX2_add : MethodName := ⟨RX2, "add", "(III)V"⟩
abbrev cX2_becomeLike : ByteArray := prog_4_method_4_code
def yX2_becomeLike : MethodName := ⟨RX2, "becomeLike", "(LDrawerGloves$Deeds;)V"⟩
def RX3 : String := "DrawerGloves$Drawer"
def TX3 : u_T := fun k => match k with
  | 0 => ("DrawerGloves$Drawer", "gloves", "[LDrawerGloves$Glove;", true)
  | 1 => ("DrawerGloves$Drawer", "deeds", "LDrawerGloves$Deeds;", true)
  | 2 => ("DrawerGloves$Drawer", "size", "I", false)
  | _ => ("DrawerGloves$Drawer", "room", "I", false)
def tyX3 : Nat → FieldType := fun k => match k with
  | 0 => .array (.object "DrawerGloves$Glove")
  | 1 => .object "DrawerGloves$Deeds"
  | 2 => .int
  | _ => .int
theorem nmX3 : ∀ a, a < 4 → ∀ b, b < 4 → a ≠ b → (TX3 a).2.1 ≠ (TX3 b).2.1 := by decide +kernel
theorem tyX3_ok : ∀ k, k < 4 → parseFieldDescriptor (TX3 k).2.2.1 = some (tyX3 k) := by decide +kernel
abbrev cX3_init : ByteArray := prog_5_method_1_code
def yX3_init : MethodName := ⟨RX3, "<init>", "()V"⟩
abbrev cX3_fill : ByteArray := prog_5_method_2_code
def yX3_fill : MethodName := ⟨RX3, "fill", "(LDrawerGloves$Reading;)V"⟩
abbrev cX3_has : ByteArray := prog_5_method_3_code
def yX3_has : MethodName := ⟨RX3, "has", "(I)Z"⟩
abbrev cX3_isSet : ByteArray := prog_5_method_4_code
def yX3_isSet : MethodName := ⟨RX3, "isSet", "(I)Z"⟩
abbrev cX3_isInside : ByteArray := prog_5_method_5_code
def yX3_isInside : MethodName := ⟨RX3, "isInside", "(I)Z"⟩
abbrev cX3_canBeLost : ByteArray := prog_5_method_6_code
def yX3_canBeLost : MethodName := ⟨RX3, "canBeLost", "(I)Z"⟩
abbrev cX3_setOf : ByteArray := prog_5_method_7_code
def yX3_setOf : MethodName := ⟨RX3, "setOf", "(I)I"⟩
abbrev cX3_howManyInside : ByteArray := prog_5_method_8_code
def yX3_howManyInside : MethodName := ⟨RX3, "howManyInside", "()I"⟩
abbrev cX3_hasRoom : ByteArray := prog_5_method_9_code
def yX3_hasRoom : MethodName := ⟨RX3, "hasRoom", "()Z"⟩
abbrev cX3_allWear : ByteArray := prog_5_method_10_code
def yX3_allWear : MethodName := ⟨RX3, "allWear", "()I"⟩
abbrev cX3_howManyOf : ByteArray := prog_5_method_11_code
def yX3_howManyOf : MethodName := ⟨RX3, "howManyOf", "(I)I"⟩
abbrev cX3_matesOf : ByteArray := prog_5_method_12_code
def yX3_matesOf : MethodName := ⟨RX3, "matesOf", "(I)I"⟩
abbrev cX3_sameSortAs : ByteArray := prog_5_method_13_code
def yX3_sameSortAs : MethodName := ⟨RX3, "sameSortAs", "(I)I"⟩
abbrev cX3_act : ByteArray := prog_5_method_14_code
def yX3_act : MethodName := ⟨RX3, "act", "(III)V"⟩
abbrev cX3_actByLot : ByteArray := prog_5_method_15_code
def yX3_actByLot : MethodName := ⟨RX3, "actByLot", "(J)V"⟩
abbrev cX3_wearFirstPair : ByteArray := prog_5_method_16_code
def yX3_wearFirstPair : MethodName := ⟨RX3, "wearFirstPair", "()V"⟩
abbrev cX3_replay : ByteArray := prog_5_method_17_code
def yX3_replay : MethodName := ⟨RX3, "replay", "()V"⟩
abbrev cX3_carryOut : ByteArray := prog_5_method_18_code
def yX3_carryOut : MethodName := ⟨RX3, "carryOut", "(III)V"⟩
def RX4 : String := "DrawerGloves$Glove"
def TX4 : u_T := fun k => match k with
  | 0 => ("DrawerGloves$Glove", "kind", "I", false)
  | 1 => ("DrawerGloves$Glove", "sort", "I", false)
  | 2 => ("DrawerGloves$Glove", "hand", "I", false)
  | 3 => ("DrawerGloves$Glove", "warm", "I", false)
  | 4 => ("DrawerGloves$Glove", "wear", "I", false)
  | _ => ("DrawerGloves$Glove", "where", "I", false)
def tyX4 : Nat → FieldType := fun k => match k with
  | 0 => .int
  | 1 => .int
  | 2 => .int
  | 3 => .int
  | 4 => .int
  | _ => .int
theorem nmX4 : ∀ a, a < 6 → ∀ b, b < 6 → a ≠ b → (TX4 a).2.1 ≠ (TX4 b).2.1 := by decide +kernel
theorem tyX4_ok : ∀ k, k < 6 → parseFieldDescriptor (TX4 k).2.2.1 = some (tyX4 k) := by decide +kernel
abbrev cX4_init : ByteArray := prog_6_method_1_code
def yX4_init : MethodName := ⟨RX4, "<init>", "()V"⟩
abbrev cX4_becomeLike : ByteArray := prog_6_method_2_code
def yX4_becomeLike : MethodName := ⟨RX4, "becomeLike", "(LDrawerGloves$Glove;)V"⟩
abbrev cX4_isOf : ByteArray := prog_6_method_3_code
def yX4_isOf : MethodName := ⟨RX4, "isOf", "(I)Z"⟩
abbrev cX4_bareWarmth : ByteArray := prog_6_method_4_code
def yX4_bareWarmth : MethodName := ⟨RX4, "bareWarmth", "()I"⟩
abbrev cX4_warmth : ByteArray := prog_6_method_5_code
def yX4_warmth : MethodName := ⟨RX4, "warmth", "()I"⟩
abbrev cX4_goesOn : ByteArray := prog_6_method_6_code
def yX4_goesOn : MethodName := ⟨RX4, "goesOn", "(I)Z"⟩
abbrev cX4_makesPairWith : ByteArray := prog_6_method_7_code
def yX4_makesPairWith : MethodName := ⟨RX4, "makesPairWith", "(LDrawerGloves$Glove;)Z"⟩
abbrev cX4_goodWith : ByteArray := prog_6_method_8_code
def yX4_goodWith : MethodName := ⟨RX4, "goodWith", "(LDrawerGloves$Glove;)I"⟩
abbrev cX4_tell : ByteArray := prog_6_method_9_code
def yX4_tell : MethodName := ⟨RX4, "tell", "(I)I"⟩
def RX5 : String := "DrawerGloves$Guess"
def TX5 : u_T := fun k => match k with
  | 0 => ("DrawerGloves$Guess", "maybe", "LDrawerGloves$Glove;", true)
  | _ => ("DrawerGloves$Guess", "outcome", "[I", true)
def tyX5 : Nat → FieldType := fun k => match k with
  | 0 => .object "DrawerGloves$Glove"
  | _ => .array .int
theorem nmX5 : ∀ a, a < 2 → ∀ b, b < 2 → a ≠ b → (TX5 a).2.1 ≠ (TX5 b).2.1 := by decide +kernel
theorem tyX5_ok : ∀ k, k < 2 → parseFieldDescriptor (TX5 k).2.2.1 = some (tyX5 k) := by decide +kernel
abbrev cX5_init : ByteArray := prog_7_method_1_code
def yX5_init : MethodName := ⟨RX5, "<init>", "()V"⟩
abbrev cX5_isWellTold : ByteArray := prog_7_method_2_code
def yX5_isWellTold : MethodName := ⟨RX5, "isWellTold", "(LDrawerGloves$Drawer;ILDrawerGloves$Rows;I)Z"⟩
abbrev cX5_agrees : ByteArray := prog_7_method_3_code
def yX5_agrees : MethodName := ⟨RX5, "agrees", "(LDrawerGloves$Drawer;LDrawerGloves$Rows;I)Z"⟩
abbrev cX5_sortsLeft : ByteArray := prog_7_method_4_code
def yX5_sortsLeft : MethodName := ⟨RX5, "sortsLeft", "(LDrawerGloves$Drawer;ILDrawerGloves$Rows;I)I"⟩
abbrev cX5_handsLeft : ByteArray := prog_7_method_5_code
def yX5_handsLeft : MethodName := ⟨RX5, "handsLeft", "(LDrawerGloves$Drawer;ILDrawerGloves$Rows;I)I"⟩
abbrev cX5_kindsLeft : ByteArray := prog_7_method_6_code
def yX5_kindsLeft : MethodName := ⟨RX5, "kindsLeft", "(LDrawerGloves$Drawer;ILDrawerGloves$Rows;I)I"⟩
abbrev cX5_nextTry : ByteArray := prog_7_method_7_code
def yX5_nextTry : MethodName := ⟨RX5, "nextTry", "(LDrawerGloves$Drawer;II)I"⟩
abbrev cX5_greatestPart : ByteArray := prog_7_method_8_code
def yX5_greatestPart : MethodName := ⟨RX5, "greatestPart", "(LDrawerGloves$Drawer;III)I"⟩
abbrev cX5_howManyLike : ByteArray := prog_7_method_9_code
def yX5_howManyLike : MethodName := ⟨RX5, "howManyLike", "(II)I"⟩
abbrev cX5_gainOfStretch : ByteArray := prog_7_method_10_code
def yX5_gainOfStretch : MethodName := ⟨RX5, "gainOfStretch", "(LDrawerGloves$Drawer;I)I"⟩
def RX6 : String := "DrawerGloves$Makings"
def TX6 : u_T := fun k => match k with
  | 0 => ("DrawerGloves$Makings", "worth", "[I", true)
  | 1 => ("DrawerGloves$Makings", "best", "[I", true)
  | 2 => ("DrawerGloves$Makings", "most", "[I", true)
  | _ => ("DrawerGloves$Makings", "enough", "[I", true)
def tyX6 : Nat → FieldType := fun k => match k with
  | 0 => .array .int
  | 1 => .array .int
  | 2 => .array .int
  | _ => .array .int
theorem nmX6 : ∀ a, a < 4 → ∀ b, b < 4 → a ≠ b → (TX6 a).2.1 ≠ (TX6 b).2.1 := by decide +kernel
theorem tyX6_ok : ∀ k, k < 4 → parseFieldDescriptor (TX6 k).2.2.1 = some (tyX6 k) := by decide +kernel
abbrev cX6_init : ByteArray := prog_8_method_1_code
def yX6_init : MethodName := ⟨RX6, "<init>", "()V"⟩
abbrev cX6_weigh : ByteArray := prog_8_method_2_code
def yX6_weigh : MethodName := ⟨RX6, "weigh", "(LDrawerGloves$Drawer;)V"⟩
abbrev cX6_weighWith : ByteArray := prog_8_method_3_code
def yX6_weighWith : MethodName := ⟨RX6, "weighWith", "(II)V"⟩
abbrev cX6_partTo : ByteArray := prog_8_method_4_code
def yX6_partTo : MethodName := ⟨RX6, "partTo", "(LDrawerGloves$Drawer;LDrawerGloves$Rows;I)V"⟩
abbrev cX6_firstMate : ByteArray := prog_8_method_5_code
def yX6_firstMate : MethodName := ⟨RX6, "firstMate", "(LDrawerGloves$Drawer;II)I"⟩
abbrev cX6_safestSet : ByteArray := prog_8_method_6_code
def yX6_safestSet : MethodName := ⟨RX6, "safestSet", "(LDrawerGloves$Drawer;)I"⟩
abbrev cX6_isSafer : ByteArray := prog_8_method_7_code
def yX6_isSafer : MethodName := ⟨RX6, "isSafer", "(LDrawerGloves$Drawer;II)Z"⟩
abbrev cX6_afterWorstLoss : ByteArray := prog_8_method_8_code
def yX6_afterWorstLoss : MethodName := ⟨RX6, "afterWorstLoss", "(LDrawerGloves$Drawer;I)I"⟩
abbrev cX6_markSetsOf : ByteArray := prog_8_method_9_code
def yX6_markSetsOf : MethodName := ⟨RX6, "markSetsOf", "(I)V"⟩
def RX7 : String := "DrawerGloves$Reading"
def TX7 : u_T := fun k => match k with
  | 0 => ("DrawerGloves$Reading", "kind", "[I", true)
  | 1 => ("DrawerGloves$Reading", "sort", "[I", true)
  | 2 => ("DrawerGloves$Reading", "hand", "[I", true)
  | 3 => ("DrawerGloves$Reading", "warm", "[I", true)
  | 4 => ("DrawerGloves$Reading", "size", "I", false)
  | _ => ("DrawerGloves$Reading", "room", "I", false)
def tyX7 : Nat → FieldType := fun k => match k with
  | 0 => .array .int
  | 1 => .array .int
  | 2 => .array .int
  | 3 => .array .int
  | 4 => .int
  | _ => .int
theorem nmX7 : ∀ a, a < 6 → ∀ b, b < 6 → a ≠ b → (TX7 a).2.1 ≠ (TX7 b).2.1 := by decide +kernel
theorem tyX7_ok : ∀ k, k < 6 → parseFieldDescriptor (TX7 k).2.2.1 = some (tyX7 k) := by decide +kernel
abbrev cX7_init : ByteArray := prog_9_method_1_code
def yX7_init : MethodName := ⟨RX7, "<init>", "()V"⟩
abbrev cX7_faultOf : ByteArray := prog_9_method_2_code
def yX7_faultOf : MethodName := ⟨RX7, "faultOf", "(LDrawerGloves$Rows;I)I"⟩
abbrev cX7_faultOfGlove : ByteArray := prog_9_method_3_code
def yX7_faultOfGlove : MethodName := ⟨RX7, "faultOfGlove", "(LDrawerGloves$Rows;II)I"⟩
abbrev cX7_pastBlanks : ByteArray := prog_9_method_4_code
def yX7_pastBlanks : MethodName := ⟨RX7, "pastBlanks", "(LDrawerGloves$Rows;II)I"⟩
abbrev cX7_figure : ByteArray := prog_9_method_5_code
def yX7_figure : MethodName := ⟨RX7, "figure", "(LDrawerGloves$Rows;IIII)I"⟩
abbrev cX7_kindOf : ByteArray := prog_9_method_6_code
def yX7_kindOf : MethodName := ⟨RX7, "kindOf", "(I)I"⟩
def RX8 : String := "DrawerGloves$Rivals"
def TX8 : u_T := fun k => match k with
  | 0 => ("DrawerGloves$Rivals", "known", "[I", true)
  | _ => ("DrawerGloves$Rivals", "inThrees", "[I", true)
def tyX8 : Nat → FieldType := fun k => match k with
  | 0 => .array .int
  | _ => .array .int
theorem nmX8 : ∀ a, a < 2 → ∀ b, b < 2 → a ≠ b → (TX8 a).2.1 ≠ (TX8 b).2.1 := by decide +kernel
theorem tyX8_ok : ∀ k, k < 2 → parseFieldDescriptor (TX8 k).2.2.1 = some (tyX8 k) := by decide +kernel
abbrev cX8_init : ByteArray := prog_10_method_1_code
def yX8_init : MethodName := ⟨RX8, "<init>", "()V"⟩
abbrev cX8_leadAfter : ByteArray := prog_10_method_2_code
def yX8_leadAfter : MethodName := ⟨RX8, "leadAfter", "(LDrawerGloves$Makings;II)I"⟩
abbrev cX8_lead : ByteArray := prog_10_method_3_code
def yX8_lead : MethodName := ⟨RX8, "lead", "(LDrawerGloves$Rivals;LDrawerGloves$Makings;IIII)I"⟩
def RX9 : String := "DrawerGloves$Rows"
def TX9 : u_T := fun k => match k with
  | 0 => ("DrawerGloves$Rows", "places", "[[I", true)
  | 1 => ("DrawerGloves$Rows", "sizes", "[I", true)
  | 2 => ("DrawerGloves$Rows", "mostPlaces", "I", true)
  | _ => ("DrawerGloves$Rows", "filler", "I", true)
def tyX9 : Nat → FieldType := fun k => match k with
  | 0 => .array (.array .int)
  | 1 => .array .int
  | 2 => .int
  | _ => .int
theorem nmX9 : ∀ a, a < 4 → ∀ b, b < 4 → a ≠ b → (TX9 a).2.1 ≠ (TX9 b).2.1 := by decide +kernel
theorem tyX9_ok : ∀ k, k < 4 → parseFieldDescriptor (TX9 k).2.2.1 = some (tyX9 k) := by decide +kernel
abbrev cX9_init : ByteArray := prog_11_method_1_code
def yX9_init : MethodName := ⟨RX9, "<init>", "(III)V"⟩
abbrev cX9_isNumber : ByteArray := prog_11_method_2_code
def yX9_isNumber : MethodName := ⟨RX9, "isNumber", "(I)Z"⟩
abbrev cX9_sizeOf : ByteArray := prog_11_method_3_code
def yX9_sizeOf : MethodName := ⟨RX9, "sizeOf", "(I)I"⟩
abbrev cX9_isThere : ByteArray := prog_11_method_4_code
def yX9_isThere : MethodName := ⟨RX9, "isThere", "(I)Z"⟩
abbrev cX9_holds : ByteArray := prog_11_method_5_code
def yX9_holds : MethodName := ⟨RX9, "holds", "(II)Z"⟩
abbrev cX9_reaches : ByteArray := prog_11_method_6_code
def yX9_reaches : MethodName := ⟨RX9, "reaches", "(III)Z"⟩
abbrev cX9_begin : ByteArray := prog_11_method_7_code
def yX9_begin : MethodName := ⟨RX9, "begin", "(II)V"⟩
abbrev cX9_drop : ByteArray := prog_11_method_8_code
def yX9_drop : MethodName := ⟨RX9, "drop", "(I)V"⟩
abbrev cX9_read : ByteArray := prog_11_method_9_code
def yX9_read : MethodName := ⟨RX9, "read", "(II)I"⟩
abbrev cX9_write : ByteArray := prog_11_method_10_code
def yX9_write : MethodName := ⟨RX9, "write", "(III)V"⟩
abbrev cX9_move : ByteArray := prog_11_method_11_code
def yX9_move : MethodName := ⟨RX9, "move", "(IIIII)V"⟩
abbrev cX9_total : ByteArray := prog_11_method_12_code
def yX9_total : MethodName := ⟨RX9, "total", "(I)J"⟩
abbrev cX9_howManyThere : ByteArray := prog_11_method_13_code
def yX9_howManyThere : MethodName := ⟨RX9, "howManyThere", "()I"⟩
abbrev cX9_digestOn : ByteArray := prog_11_method_14_code
def yX9_digestOn : MethodName := ⟨RX9, "digestOn", "(J)J"⟩
def RX10 : String := "DrawerGloves"
def TX10 : u_T := fun k => match k with
  | 0 => ("DrawerGloves", "rows", "LDrawerGloves$Rows;", true)
  | 1 => ("DrawerGloves", "texts", "LDrawerGloves$Rows;", true)
  | 2 => ("DrawerGloves", "reading", "LDrawerGloves$Reading;", true)
  | 3 => ("DrawerGloves", "chest", "LDrawerGloves$Drawer;", true)
  | 4 => ("DrawerGloves", "kept", "[LDrawerGloves$Deeds;", true)
  | 5 => ("DrawerGloves", "makings", "LDrawerGloves$Makings;", true)
  | 6 => ("DrawerGloves", "calendar", "LDrawerGloves$Calendar;", true)
  | 7 => ("DrawerGloves", "guess", "LDrawerGloves$Guess;", true)
  | 8 => ("DrawerGloves", "rivals", "LDrawerGloves$Rivals;", true)
  | 9 => ("DrawerGloves", "chances", "LDrawerGloves$Chances;", true)
  | 10 => ("DrawerGloves", "found", "[I", true)
  | 11 => ("DrawerGloves", "lastFound", "I", false)
  | _ => ("DrawerGloves", "lastAsked", "I", false)
def tyX10 : Nat → FieldType := fun k => match k with
  | 0 => .object "DrawerGloves$Rows"
  | 1 => .object "DrawerGloves$Rows"
  | 2 => .object "DrawerGloves$Reading"
  | 3 => .object "DrawerGloves$Drawer"
  | 4 => .array (.object "DrawerGloves$Deeds")
  | 5 => .object "DrawerGloves$Makings"
  | 6 => .object "DrawerGloves$Calendar"
  | 7 => .object "DrawerGloves$Guess"
  | 8 => .object "DrawerGloves$Rivals"
  | 9 => .object "DrawerGloves$Chances"
  | 10 => .array .int
  | 11 => .int
  | _ => .int
theorem nmX10 : ∀ a, a < 13 → ∀ b, b < 13 → a ≠ b → (TX10 a).2.1 ≠ (TX10 b).2.1 := by decide +kernel
theorem tyX10_ok : ∀ k, k < 13 → parseFieldDescriptor (TX10 k).2.2.1 = some (tyX10 k) := by decide +kernel
abbrev cX10_init : ByteArray := prog_1_method_1_code
def yX10_init : MethodName := ⟨RX10, "<init>", "()V"⟩
abbrev cX10_row : ByteArray := prog_1_method_2_code
def yX10_row : MethodName := ⟨RX10, "row", "(II)I"⟩
abbrev cX10_lay : ByteArray := prog_1_method_3_code
def yX10_lay : MethodName := ⟨RX10, "lay", "(III)I"⟩
abbrev cX10_at : ByteArray := prog_1_method_4_code
def yX10_at : MethodName := ⟨RX10, "at", "(II)I"⟩
abbrev cX10_tear : ByteArray := prog_1_method_5_code
def yX10_tear : MethodName := ⟨RX10, "tear", "(I)I"⟩
abbrev cX10_copy : ByteArray := prog_1_method_6_code
def yX10_copy : MethodName := ⟨RX10, "copy", "(IIIII)I"⟩
abbrev cX10_mean : ByteArray := prog_1_method_7_code
def yX10_mean : MethodName := ⟨RX10, "mean", "(I)I"⟩
abbrev cX10_text : ByteArray := prog_1_method_8_code
def yX10_text : MethodName := ⟨RX10, "text", "(II)I"⟩
abbrev cX10_put : ByteArray := prog_1_method_9_code
def yX10_put : MethodName := ⟨RX10, "put", "(III)I"⟩
abbrev cX10_fault : ByteArray := prog_1_method_10_code
def yX10_fault : MethodName := ⟨RX10, "fault", "(I)I"⟩
abbrev cX10_drawer : ByteArray := prog_1_method_11_code
def yX10_drawer : MethodName := ⟨RX10, "drawer", "(I)I"⟩
abbrev cX10_glove : ByteArray := prog_1_method_12_code
def yX10_glove : MethodName := ⟨RX10, "glove", "(II)I"⟩
abbrev cX10_mark : ByteArray := prog_1_method_13_code
def yX10_mark : MethodName := ⟨RX10, "mark", "(II)I"⟩
abbrev cX10_pair : ByteArray := prog_1_method_14_code
def yX10_pair : MethodName := ⟨RX10, "pair", "(II)I"⟩
abbrev cX10_wear : ByteArray := prog_1_method_15_code
def yX10_wear : MethodName := ⟨RX10, "wear", "(II)I"⟩
abbrev cX10_lose : ByteArray := prog_1_method_16_code
def yX10_lose : MethodName := ⟨RX10, "lose", "(I)I"⟩
abbrev cX10_back : ByteArray := prog_1_method_17_code
def yX10_back : MethodName := ⟨RX10, "back", "(I)I"⟩
abbrev cX10_out : ByteArray := prog_1_method_18_code
def yX10_out : MethodName := ⟨RX10, "out", "(I)I"⟩
abbrev cX10_undo : ByteArray := prog_1_method_19_code
def yX10_undo : MethodName := ⟨RX10, "undo", "(I)I"⟩
abbrev cX10_keep : ByteArray := prog_1_method_20_code
def yX10_keep : MethodName := ⟨RX10, "keep", "(I)I"⟩
abbrev cX10_on : ByteArray := prog_1_method_21_code
def yX10_on : MethodName := ⟨RX10, "on", "(I)I"⟩
abbrev cX10_good : ByteArray := prog_1_method_22_code
def yX10_good : MethodName := ⟨RX10, "good", "(I)I"⟩
abbrev cX10_pairs : ByteArray := prog_1_method_23_code
def yX10_pairs : MethodName := ⟨RX10, "pairs", "(I)I"⟩
abbrev cX10_missed : ByteArray := prog_1_method_24_code
def yX10_missed : MethodName := ⟨RX10, "missed", "()I"⟩
abbrev cX10_wished : ByteArray := prog_1_method_25_code
def yX10_wished : MethodName := ⟨RX10, "wished", "()I"⟩
abbrev cX10_days : ByteArray := prog_1_method_26_code
def yX10_days : MethodName := ⟨RX10, "days", "(II)I"⟩
abbrev cX10_room : ByteArray := prog_1_method_27_code
def yX10_room : MethodName := ⟨RX10, "room", "()I"⟩
abbrev cX10_join : ByteArray := prog_1_method_28_code
def yX10_join : MethodName := ⟨RX10, "join", "(II)I"⟩
abbrev cX10_sorts : ByteArray := prog_1_method_29_code
def yX10_sorts : MethodName := ⟨RX10, "sorts", "(II)I"⟩
abbrev cX10_hands : ByteArray := prog_1_method_30_code
def yX10_hands : MethodName := ⟨RX10, "hands", "(II)I"⟩
abbrev cX10_kinds : ByteArray := prog_1_method_31_code
def yX10_kinds : MethodName := ⟨RX10, "kinds", "(II)I"⟩
abbrev cX10_test : ByteArray := prog_1_method_32_code
def yX10_test : MethodName := ⟨RX10, "test", "(II)I"⟩
abbrev cX10_duel : ByteArray := prog_1_method_33_code
def yX10_duel : MethodName := ⟨RX10, "duel", "(I)I"⟩
abbrev cX10_odds : ByteArray := prog_1_method_34_code
def yX10_odds : MethodName := ⟨RX10, "odds", "(III)I"⟩
abbrev cX10_mid : ByteArray := prog_1_method_35_code
def yX10_mid : MethodName := ⟨RX10, "mid", "(II)I"⟩
abbrev cX10_lots : ByteArray := prog_1_method_36_code
def yX10_lots : MethodName := ⟨RX10, "lots", "(II)I"⟩
abbrev cX10_asked : ByteArray := prog_1_method_37_code
def yX10_asked : MethodName := ⟨RX10, "asked", "()I"⟩
abbrev cX10_upper : ByteArray := prog_1_method_38_code
def yX10_upper : MethodName := ⟨RX10, "upper", "()J"⟩
abbrev cX10_lower : ByteArray := prog_1_method_39_code
def yX10_lower : MethodName := ⟨RX10, "lower", "()J"⟩
abbrev cX10_count : ByteArray := prog_1_method_40_code
def yX10_count : MethodName := ⟨RX10, "count", "(I)I"⟩
abbrev cX10_finding : ByteArray := prog_1_method_41_code
def yX10_finding : MethodName := ⟨RX10, "finding", "()I"⟩
abbrev cX10_findings : ByteArray := prog_1_method_42_code
def yX10_findings : MethodName := ⟨RX10, "findings", "(I)I"⟩
abbrev cX10_digest : ByteArray := prog_1_method_43_code
def yX10_digest : MethodName := ⟨RX10, "digest", "()J"⟩
abbrev cX10_finds : ByteArray := prog_1_method_44_code
def yX10_finds : MethodName := ⟨RX10, "finds", "(I)I"⟩
abbrev cX10_tells : ByteArray := prog_1_method_45_code
def yX10_tells : MethodName := ⟨RX10, "tells", "(I)I"⟩
abbrev cX10_refusedRow : ByteArray := prog_1_method_46_code
def yX10_refusedRow : MethodName := ⟨RX10, "refusedRow", "(I)I"⟩
abbrev cX10_refusedPlace : ByteArray := prog_1_method_47_code
def yX10_refusedPlace : MethodName := ⟨RX10, "refusedPlace", "(II)I"⟩
abbrev cX10_refusedText : ByteArray := prog_1_method_48_code
def yX10_refusedText : MethodName := ⟨RX10, "refusedText", "(I)I"⟩
abbrev cX10_refusedGuess : ByteArray := prog_1_method_49_code
def yX10_refusedGuess : MethodName := ⟨RX10, "refusedGuess", "(II)I"⟩
abbrev cX10_greatestChange : ByteArray := prog_1_method_50_code
def yX10_greatestChange : MethodName := ⟨RX10, "greatestChange", "(I)I"⟩
abbrev cX10_howManyKept : ByteArray := prog_1_method_51_code
def yX10_howManyKept : MethodName := ⟨RX10, "howManyKept", "()I"⟩
abbrev cX10_isChance : ByteArray := prog_1_method_52_code
def yX10_isChance : MethodName := ⟨RX10, "isChance", "(I)Z"⟩
def RX11 : String := "DrawerGlovesModel"
def TX11 : u_T := fun k => match k with
  | _ => ("", "", "", false)
def tyX11 : Nat → FieldType := fun k => match k with
  | _ => .int
theorem nmX11 : ∀ a, a < 0 → ∀ b, b < 0 → a ≠ b → (TX11 a).2.1 ≠ (TX11 b).2.1 := by decide +kernel
theorem tyX11_ok : ∀ k, k < 0 → parseFieldDescriptor (TX11 k).2.2.1 = some (tyX11 k) := by decide +kernel
def RJ6 : String := "java/lang/Integer"
def TJ6 : u_T := fun k => match k with
  | _ => ("", "", "", false)
def tyJ6 : Nat → FieldType := fun k => match k with
  | _ => .int
abbrev cJ6_bitCount_0f7a4 : ByteArray := prog_14_method_49_code
def yJ6_bitCount_0f7a4 : MethodName := ⟨RJ6, "bitCount", "(I)I"⟩
def RJ9 : String := "java/lang/Math"
def TJ9 : u_T := fun k => match k with
  | _ => ("", "", "", false)
def tyJ9 : Nat → FieldType := fun k => match k with
  | _ => .int
def RJ10 : String := "java/lang/System"
def TJ10 : u_T := fun k => match k with
  | _ => ("", "", "", false)
def tyJ10 : Nat → FieldType := fun k => match k with
  | _ => .int
def RL : String := "DrawerGlovesLaw"
abbrev cL_cell : ByteArray := method_2_code
def yL_cell : MethodName := ⟨RL, "cell", "([II)I"⟩
abbrev cL_low : ByteArray := method_3_code
def yL_low : MethodName := ⟨RL, "low", "(II)I"⟩
abbrev cL_refused : ByteArray := method_4_code
def yL_refused : MethodName := ⟨RL, "refused", "(LDrawerGloves;I)Z"⟩
abbrev cL_drawer : ByteArray := method_5_code
def yL_drawer : MethodName := ⟨RL, "drawer", "(LDrawerGloves;)Z"⟩
abbrev cL_turn : ByteArray := method_6_code
def yL_turn : MethodName := ⟨RL, "turn", "(LDrawerGloves;I)I"⟩
abbrev cL_same : ByteArray := method_7_code
def yL_same : MethodName := ⟨RL, "same", "(LDrawerGloves;LDrawerGloves;)Z"⟩
abbrev cL_law : ByteArray := code
def yL_law : MethodName := ⟨RL, "law", "([I)Z"⟩
abbrev vwCl : List vw_C := [(RX0, TX0, 7), (RX1, TX1, 3), (RX2, TX2, 2), (RX3, TX3, 4), (RX4, TX4, 6), (RX5, TX5, 2), (RX6, TX6, 4), (RX7, TX7, 6), (RX8, TX8, 2), (RX9, TX9, 4), (RX10, TX10, 13)]
theorem mm_s (w : Cond) (h : w ∈ k2_sels lw_privs) : w ∈ lw_tbl := List.mem_append_left _ h
theorem mm_t (w : Cond) (h : w ∈ tables_1) : w ∈ lw_tbl := List.mem_append_right _ h
theorem mm_1 {w : Cond} (h : w ∈ tables_1_1) : w ∈ lw_tbl := mm_t _ (List.mem_append_left _ h)
theorem mm_2 {w : Cond} (h : w ∈ tables_1_2) : w ∈ lw_tbl := mm_t _ (List.mem_append_right _ (List.mem_append_left _ h))
theorem mm_3 {w : Cond} (h : w ∈ tables_1_3) : w ∈ lw_tbl := mm_t _ (List.mem_append_right _ (List.mem_append_right _ (List.mem_append_left _ h)))
theorem mm_4 {w : Cond} (h : w ∈ tables_1_4) : w ∈ lw_tbl := mm_t _ (List.mem_append_right _ (List.mem_append_right _ (List.mem_append_right _ (h))))
theorem mp_1 {q : MethodName × Nat} (h : q ∈ lw_privs_1) : Cond.selects q.1.cls q.1 q.1 ∈ lw_tbl := mm_s _ (List.mem_map.mpr ⟨q, List.mem_append_left _ h, rfl⟩)
theorem mp_2 {q : MethodName × Nat} (h : q ∈ lw_privs_2) : Cond.selects q.1.cls q.1 q.1 ∈ lw_tbl := mm_s _ (List.mem_map.mpr ⟨q, List.mem_append_right _ (h), rfl⟩)
/-- the words that a call carries on -/
def gtbl : List Cond := lw_tbl.filter goodWord
theorem mg {w : Cond} (h : w ∈ lw_tbl) (hg : goodWord w = true) : w ∈ gtbl := List.mem_filter.mpr ⟨h, hg⟩
theorem gtbl_in {w : Cond} (h : w ∈ gtbl) : w ∈ lw_tbl := (List.mem_filter.mp h).1
theorem tblG (w : Cond) (h : w ∈ gtbl) : (w.onTables && w.keeps) = true ∨ ∃ ty, w = .arrayClass ty := good_of_word (List.mem_filter.mp h).2
set_option maxRecDepth 20000 in
theorem m_1_0 : (Jvm.Cond.initialized "DrawerGlovesLaw") ∈ gtbl := mg (mm_1 (List.mem_of_getElem? (i := 0) rfl)) rfl
set_option maxRecDepth 20000 in
theorem m_1_1 : (Jvm.Cond.initialized "DrawerGloves") ∈ gtbl := mg (mm_1 (List.mem_of_getElem? (i := 1) rfl)) rfl
set_option maxRecDepth 20000 in
theorem m_1_2 : (Jvm.Cond.initialized "DrawerGloves$Rows") ∈ gtbl := mg (mm_1 (List.mem_of_getElem? (i := 2) rfl)) rfl
set_option maxRecDepth 20000 in
theorem m_1_3 : (Jvm.Cond.initialized "java/lang/Math") ∈ gtbl := mg (mm_1 (List.mem_of_getElem? (i := 3) rfl)) rfl
set_option maxRecDepth 20000 in
theorem m_1_4 : (Jvm.Cond.initialized "DrawerGloves$Reading") ∈ gtbl := mg (mm_1 (List.mem_of_getElem? (i := 4) rfl)) rfl
set_option maxRecDepth 20000 in
theorem m_1_5 : (Jvm.Cond.initialized "DrawerGloves$Drawer") ∈ gtbl := mg (mm_1 (List.mem_of_getElem? (i := 5) rfl)) rfl
set_option maxRecDepth 20000 in
theorem m_1_6 : (Jvm.Cond.initialized "DrawerGloves$Deeds") ∈ gtbl := mg (mm_1 (List.mem_of_getElem? (i := 6) rfl)) rfl
set_option maxRecDepth 20000 in
theorem m_1_7 : (Jvm.Cond.initialized "DrawerGloves$Glove") ∈ gtbl := mg (mm_1 (List.mem_of_getElem? (i := 7) rfl)) rfl
set_option maxRecDepth 20000 in
theorem m_1_8 : (Jvm.Cond.initialized "DrawerGloves$Makings") ∈ gtbl := mg (mm_1 (List.mem_of_getElem? (i := 8) rfl)) rfl
set_option maxRecDepth 20000 in
theorem m_1_9 : (Jvm.Cond.initialized "DrawerGloves$Calendar") ∈ gtbl := mg (mm_1 (List.mem_of_getElem? (i := 9) rfl)) rfl
set_option maxRecDepth 20000 in
theorem m_1_10 : (Jvm.Cond.initialized "DrawerGloves$Guess") ∈ gtbl := mg (mm_1 (List.mem_of_getElem? (i := 10) rfl)) rfl
set_option maxRecDepth 20000 in
theorem m_1_11 : (Jvm.Cond.initialized "DrawerGloves$Rivals") ∈ gtbl := mg (mm_1 (List.mem_of_getElem? (i := 11) rfl)) rfl
set_option maxRecDepth 20000 in
theorem m_1_12 : (Jvm.Cond.initialized "DrawerGloves$Chances") ∈ gtbl := mg (mm_1 (List.mem_of_getElem? (i := 12) rfl)) rfl
set_option maxRecDepth 20000 in
theorem m_1_13 : (Jvm.Cond.initialized "java/lang/System") ∈ gtbl := mg (mm_1 (List.mem_of_getElem? (i := 13) rfl)) rfl
set_option maxRecDepth 20000 in
theorem m_1_14 : (Jvm.Cond.initialized "java/lang/Integer") ∈ gtbl := mg (mm_1 (List.mem_of_getElem? (i := 14) rfl)) rfl
set_option maxRecDepth 20000 in
theorem m_1_15 : (Jvm.Cond.classLink "DrawerGlovesLaw" (10 : Nat) "DrawerGloves") ∈ gtbl := mg (mm_1 (List.mem_of_getElem? (i := 15) rfl)) rfl
set_option maxRecDepth 20000 in
theorem m_1_16 : (Jvm.Cond.instantiable "DrawerGloves" (13 : Nat)) ∈ gtbl := mg (mm_1 (List.mem_of_getElem? (i := 16) rfl)) rfl
set_option maxRecDepth 20000 in
theorem m_1_17 : (Jvm.Cond.methodLink "DrawerGlovesLaw" (151 : Nat) ({ cls := "DrawerGloves", name := "<init>", desc := "()V" } : Jvm.MethodName)) ∈ gtbl := mg (mm_1 (List.mem_of_getElem? (i := 17) rfl)) rfl
set_option maxRecDepth 20000 in
theorem m_1_18 : (Jvm.Cond.instanceMethod ({ cls := "DrawerGloves", name := "<init>", desc := "()V" } : Jvm.MethodName)) ∈ gtbl := mg (mm_1 (List.mem_of_getElem? (i := 18) rfl)) rfl
set_option maxRecDepth 20000 in
theorem m_1_19 : (Jvm.Cond.code ({ cls := "DrawerGloves", name := "<init>", desc := "()V" } : Jvm.MethodName) prog_1_method_1_code (2 : Nat) (Option.none : Option Jvm.ClassFile.FieldType)) ∈ gtbl := mg (mm_1 (List.mem_of_getElem? (i := 19) rfl)) rfl
set_option maxRecDepth 20000 in
theorem m_1_20 : (Jvm.Cond.methodLink "DrawerGloves" (1 : Nat) ({ cls := "java/lang/Object", name := "<init>", desc := "()V" } : Jvm.MethodName)) ∈ gtbl := mg (mm_1 (List.mem_of_getElem? (i := 20) rfl)) rfl
set_option maxRecDepth 20000 in
theorem m_1_21 : (Jvm.Cond.instanceMethod ({ cls := "java/lang/Object", name := "<init>", desc := "()V" } : Jvm.MethodName)) ∈ gtbl := mg (mm_1 (List.mem_of_getElem? (i := 21) rfl)) rfl
set_option maxRecDepth 20000 in
theorem m_1_22 : (Jvm.Cond.code ({ cls := "java/lang/Object", name := "<init>", desc := "()V" } : Jvm.MethodName) object_method_1_code (1 : Nat) (Option.none : Option Jvm.ClassFile.FieldType)) ∈ gtbl := mg (mm_1 (List.mem_of_getElem? (i := 22) rfl)) rfl
set_option maxRecDepth 20000 in
theorem m_1_23 : (Jvm.Cond.classLink "DrawerGloves" (7 : Nat) "DrawerGloves$Rows") ∈ gtbl := mg (mm_1 (List.mem_of_getElem? (i := 23) rfl)) rfl
set_option maxRecDepth 20000 in
theorem m_1_24 : (Jvm.Cond.instantiable "DrawerGloves$Rows" (4 : Nat)) ∈ gtbl := mg (mm_1 (List.mem_of_getElem? (i := 24) rfl)) rfl
set_option maxRecDepth 20000 in
theorem m_1_25 : (Jvm.Cond.methodLink "DrawerGloves" (11 : Nat) ({ cls := "DrawerGloves$Rows", name := "<init>", desc := "(III)V" } : Jvm.MethodName)) ∈ gtbl := mg (mm_1 (List.mem_of_getElem? (i := 25) rfl)) rfl
set_option maxRecDepth 20000 in
theorem m_1_26 : (Jvm.Cond.instanceMethod ({ cls := "DrawerGloves$Rows", name := "<init>", desc := "(III)V" } : Jvm.MethodName)) ∈ gtbl := mg (mm_1 (List.mem_of_getElem? (i := 26) rfl)) rfl
set_option maxRecDepth 20000 in
theorem m_1_27 : (Jvm.Cond.code ({ cls := "DrawerGloves$Rows", name := "<init>", desc := "(III)V" } : Jvm.MethodName) prog_11_method_1_code (6 : Nat) (Option.none : Option Jvm.ClassFile.FieldType)) ∈ gtbl := mg (mm_1 (List.mem_of_getElem? (i := 27) rfl)) rfl
set_option maxRecDepth 20000 in
theorem m_1_28 : (Jvm.Cond.methodLink "DrawerGloves$Rows" (3 : Nat) ({ cls := "java/lang/Object", name := "<init>", desc := "()V" } : Jvm.MethodName)) ∈ gtbl := mg (mm_1 (List.mem_of_getElem? (i := 28) rfl)) rfl
set_option maxRecDepth 20000 in
theorem m_1_29 : (Jvm.Cond.methodLink "DrawerGloves$Rows" (9 : Nat) ({ cls := "java/lang/Math", name := "max", desc := "(II)I" } : Jvm.MethodName)) ∈ gtbl := mg (mm_1 (List.mem_of_getElem? (i := 29) rfl)) rfl
set_option maxRecDepth 20000 in
theorem m_1_30 : (Jvm.Cond.static ({ cls := "java/lang/Math", name := "max", desc := "(II)I" } : Jvm.MethodName)) ∈ gtbl := mg (mm_1 (List.mem_of_getElem? (i := 30) rfl)) rfl
set_option maxRecDepth 20000 in
theorem m_1_31 : (Jvm.Cond.code ({ cls := "java/lang/Math", name := "max", desc := "(II)I" } : Jvm.MethodName) prog_15_method_65_code (2 : Nat) (Option.some Jvm.ClassFile.FieldType.int)) ∈ gtbl := mg (mm_1 (List.mem_of_getElem? (i := 31) rfl)) rfl
set_option maxRecDepth 20000 in
theorem m_1_32 : (Jvm.Cond.classLink "DrawerGloves$Rows" (24 : Nat) "[[I") ∈ gtbl := mg (mm_1 (List.mem_of_getElem? (i := 32) rfl)) rfl
set_option maxRecDepth 20000 in
theorem m_1_33 : (Jvm.Cond.arrayOver (Jvm.ClassFile.FieldType.array Jvm.ClassFile.FieldType.int)) ∈ lw_tbl := mm_1 (List.mem_of_getElem? (i := 33) rfl)
set_option maxRecDepth 20000 in
theorem m_1_34 : (Jvm.Cond.fieldLink "DrawerGloves$Rows" (26 : Nat) "DrawerGloves$Rows" "places" "[[I") ∈ gtbl := mg (mm_1 (List.mem_of_getElem? (i := 34) rfl)) rfl
set_option maxRecDepth 20000 in
theorem m_1_35 : (Jvm.Cond.fieldLink "DrawerGloves$Rows" (29 : Nat) "DrawerGloves$Rows" "sizes" "[I") ∈ gtbl := mg (mm_1 (List.mem_of_getElem? (i := 35) rfl)) rfl
set_option maxRecDepth 20000 in
theorem m_1_36 : (Jvm.Cond.fieldLink "DrawerGloves$Rows" (15 : Nat) "DrawerGloves$Rows" "mostPlaces" "I") ∈ gtbl := mg (mm_1 (List.mem_of_getElem? (i := 36) rfl)) rfl
set_option maxRecDepth 20000 in
theorem m_1_37 : (Jvm.Cond.fieldLink "DrawerGloves$Rows" (21 : Nat) "DrawerGloves$Rows" "filler" "I") ∈ gtbl := mg (mm_1 (List.mem_of_getElem? (i := 37) rfl)) rfl
set_option maxRecDepth 20000 in
theorem m_1_38 : (Jvm.Cond.laysFinal "DrawerGloves$Rows" "DrawerGloves$Rows" "places" "[[I") ∈ gtbl := mg (mm_1 (List.mem_of_getElem? (i := 38) rfl)) rfl
set_option maxRecDepth 20000 in
theorem m_1_40 : (Jvm.Cond.laysFinal "DrawerGloves$Rows" "DrawerGloves$Rows" "sizes" "[I") ∈ gtbl := mg (mm_1 (List.mem_of_getElem? (i := 40) rfl)) rfl
set_option maxRecDepth 20000 in
theorem m_1_42 : (Jvm.Cond.laysFinal "DrawerGloves$Rows" "DrawerGloves$Rows" "mostPlaces" "I") ∈ gtbl := mg (mm_1 (List.mem_of_getElem? (i := 42) rfl)) rfl
set_option maxRecDepth 20000 in
theorem m_1_44 : (Jvm.Cond.laysFinal "DrawerGloves$Rows" "DrawerGloves$Rows" "filler" "I") ∈ gtbl := mg (mm_1 (List.mem_of_getElem? (i := 44) rfl)) rfl
set_option maxRecDepth 20000 in
theorem m_1_47 : (Jvm.Cond.arrayClass Jvm.ClassFile.FieldType.int) ∈ gtbl := mg (mm_1 (List.mem_of_getElem? (i := 47) rfl)) rfl
set_option maxRecDepth 20000 in
theorem m_1_48 : (Jvm.Cond.classLink "DrawerGloves" (21 : Nat) "DrawerGloves$Reading") ∈ gtbl := mg (mm_1 (List.mem_of_getElem? (i := 48) rfl)) rfl
set_option maxRecDepth 20000 in
theorem m_1_49 : (Jvm.Cond.instantiable "DrawerGloves$Reading" (6 : Nat)) ∈ gtbl := mg (mm_1 (List.mem_of_getElem? (i := 49) rfl)) rfl
set_option maxRecDepth 20000 in
theorem m_1_50 : (Jvm.Cond.methodLink "DrawerGloves" (23 : Nat) ({ cls := "DrawerGloves$Reading", name := "<init>", desc := "()V" } : Jvm.MethodName)) ∈ gtbl := mg (mm_1 (List.mem_of_getElem? (i := 50) rfl)) rfl
set_option maxRecDepth 20000 in
theorem m_1_51 : (Jvm.Cond.instanceMethod ({ cls := "DrawerGloves$Reading", name := "<init>", desc := "()V" } : Jvm.MethodName)) ∈ gtbl := mg (mm_1 (List.mem_of_getElem? (i := 51) rfl)) rfl
set_option maxRecDepth 20000 in
theorem m_1_52 : (Jvm.Cond.code ({ cls := "DrawerGloves$Reading", name := "<init>", desc := "()V" } : Jvm.MethodName) prog_9_method_1_code (1 : Nat) (Option.none : Option Jvm.ClassFile.FieldType)) ∈ gtbl := mg (mm_1 (List.mem_of_getElem? (i := 52) rfl)) rfl
set_option maxRecDepth 20000 in
theorem m_1_53 : (Jvm.Cond.methodLink "DrawerGloves$Reading" (3 : Nat) ({ cls := "java/lang/Object", name := "<init>", desc := "()V" } : Jvm.MethodName)) ∈ gtbl := mg (mm_1 (List.mem_of_getElem? (i := 53) rfl)) rfl
set_option maxRecDepth 20000 in
theorem m_1_54 : (Jvm.Cond.fieldLink "DrawerGloves$Reading" (9 : Nat) "DrawerGloves$Reading" "kind" "[I") ∈ gtbl := mg (mm_1 (List.mem_of_getElem? (i := 54) rfl)) rfl
set_option maxRecDepth 20000 in
theorem m_1_55 : (Jvm.Cond.fieldLink "DrawerGloves$Drawer" (36 : Nat) "DrawerGloves$Reading" "kind" "[I") ∈ gtbl := mg (mm_1 (List.mem_of_getElem? (i := 55) rfl)) rfl
set_option maxRecDepth 20000 in
theorem m_1_56 : (Jvm.Cond.fieldLink "DrawerGloves$Reading" (15 : Nat) "DrawerGloves$Reading" "sort" "[I") ∈ gtbl := mg (mm_1 (List.mem_of_getElem? (i := 56) rfl)) rfl
set_option maxRecDepth 20000 in
theorem m_1_57 : (Jvm.Cond.fieldLink "DrawerGloves$Drawer" (42 : Nat) "DrawerGloves$Reading" "sort" "[I") ∈ gtbl := mg (mm_1 (List.mem_of_getElem? (i := 57) rfl)) rfl
set_option maxRecDepth 20000 in
theorem m_1_58 : (Jvm.Cond.fieldLink "DrawerGloves$Reading" (18 : Nat) "DrawerGloves$Reading" "hand" "[I") ∈ gtbl := mg (mm_1 (List.mem_of_getElem? (i := 58) rfl)) rfl
set_option maxRecDepth 20000 in
theorem m_1_59 : (Jvm.Cond.fieldLink "DrawerGloves$Drawer" (47 : Nat) "DrawerGloves$Reading" "hand" "[I") ∈ gtbl := mg (mm_1 (List.mem_of_getElem? (i := 59) rfl)) rfl
set_option maxRecDepth 20000 in
theorem m_1_60 : (Jvm.Cond.fieldLink "DrawerGloves$Reading" (21 : Nat) "DrawerGloves$Reading" "warm" "[I") ∈ gtbl := mg (mm_1 (List.mem_of_getElem? (i := 60) rfl)) rfl
set_option maxRecDepth 20000 in
theorem m_1_61 : (Jvm.Cond.fieldLink "DrawerGloves$Drawer" (52 : Nat) "DrawerGloves$Reading" "warm" "[I") ∈ gtbl := mg (mm_1 (List.mem_of_getElem? (i := 61) rfl)) rfl
set_option maxRecDepth 20000 in
theorem m_1_62 : (Jvm.Cond.fieldLink "DrawerGloves$Reading" (24 : Nat) "DrawerGloves$Reading" "size" "I") ∈ gtbl := mg (mm_1 (List.mem_of_getElem? (i := 62) rfl)) rfl
set_option maxRecDepth 20000 in
theorem m_1_63 : (Jvm.Cond.fieldLink "DrawerGloves$Drawer" (25 : Nat) "DrawerGloves$Reading" "size" "I") ∈ gtbl := mg (mm_1 (List.mem_of_getElem? (i := 63) rfl)) rfl
set_option maxRecDepth 20000 in
theorem m_1_64 : (Jvm.Cond.fieldLink "DrawerGloves$Drawer" (32 : Nat) "DrawerGloves$Reading" "room" "I") ∈ gtbl := mg (mm_1 (List.mem_of_getElem? (i := 64) rfl)) rfl
set_option maxRecDepth 20000 in
theorem m_1_65 : (Jvm.Cond.fieldLink "DrawerGloves$Reading" (46 : Nat) "DrawerGloves$Reading" "room" "I") ∈ gtbl := mg (mm_1 (List.mem_of_getElem? (i := 65) rfl)) rfl
set_option maxRecDepth 20000 in
theorem m_1_66 : (Jvm.Cond.laysFinal "DrawerGloves$Reading" "DrawerGloves$Reading" "kind" "[I") ∈ gtbl := mg (mm_1 (List.mem_of_getElem? (i := 66) rfl)) rfl
set_option maxRecDepth 20000 in
theorem m_1_68 : (Jvm.Cond.laysFinal "DrawerGloves$Reading" "DrawerGloves$Reading" "sort" "[I") ∈ gtbl := mg (mm_1 (List.mem_of_getElem? (i := 68) rfl)) rfl
set_option maxRecDepth 20000 in
theorem m_1_70 : (Jvm.Cond.laysFinal "DrawerGloves$Reading" "DrawerGloves$Reading" "hand" "[I") ∈ gtbl := mg (mm_1 (List.mem_of_getElem? (i := 70) rfl)) rfl
set_option maxRecDepth 20000 in
theorem m_1_72 : (Jvm.Cond.laysFinal "DrawerGloves$Reading" "DrawerGloves$Reading" "warm" "[I") ∈ gtbl := mg (mm_1 (List.mem_of_getElem? (i := 72) rfl)) rfl
set_option maxRecDepth 20000 in
theorem m_1_74 : (Jvm.Cond.lays "DrawerGloves$Reading" "DrawerGloves$Reading" "size" "I") ∈ gtbl := mg (mm_1 (List.mem_of_getElem? (i := 74) rfl)) rfl
set_option maxRecDepth 20000 in
theorem m_1_76 : (Jvm.Cond.lays "DrawerGloves$Reading" "DrawerGloves$Reading" "room" "I") ∈ gtbl := mg (mm_1 (List.mem_of_getElem? (i := 76) rfl)) rfl
set_option maxRecDepth 20000 in
theorem m_1_79 : (Jvm.Cond.classLink "DrawerGloves" (28 : Nat) "DrawerGloves$Drawer") ∈ gtbl := mg (mm_1 (List.mem_of_getElem? (i := 79) rfl)) rfl
set_option maxRecDepth 20000 in
theorem m_1_80 : (Jvm.Cond.instantiable "DrawerGloves$Drawer" (4 : Nat)) ∈ gtbl := mg (mm_1 (List.mem_of_getElem? (i := 80) rfl)) rfl
set_option maxRecDepth 20000 in
theorem m_1_81 : (Jvm.Cond.methodLink "DrawerGloves" (30 : Nat) ({ cls := "DrawerGloves$Drawer", name := "<init>", desc := "()V" } : Jvm.MethodName)) ∈ gtbl := mg (mm_1 (List.mem_of_getElem? (i := 81) rfl)) rfl
set_option maxRecDepth 20000 in
theorem m_1_82 : (Jvm.Cond.instanceMethod ({ cls := "DrawerGloves$Drawer", name := "<init>", desc := "()V" } : Jvm.MethodName)) ∈ gtbl := mg (mm_1 (List.mem_of_getElem? (i := 82) rfl)) rfl
set_option maxRecDepth 20000 in
theorem m_1_83 : (Jvm.Cond.code ({ cls := "DrawerGloves$Drawer", name := "<init>", desc := "()V" } : Jvm.MethodName) prog_5_method_1_code (2 : Nat) (Option.none : Option Jvm.ClassFile.FieldType)) ∈ gtbl := mg (mm_1 (List.mem_of_getElem? (i := 83) rfl)) rfl
set_option maxRecDepth 20000 in
theorem m_1_84 : (Jvm.Cond.methodLink "DrawerGloves$Drawer" (3 : Nat) ({ cls := "java/lang/Object", name := "<init>", desc := "()V" } : Jvm.MethodName)) ∈ gtbl := mg (mm_1 (List.mem_of_getElem? (i := 84) rfl)) rfl
set_option maxRecDepth 20000 in
theorem m_1_85 : (Jvm.Cond.classLink "DrawerGloves$Drawer" (9 : Nat) "DrawerGloves$Glove") ∈ gtbl := mg (mm_1 (List.mem_of_getElem? (i := 85) rfl)) rfl
set_option maxRecDepth 20000 in
theorem m_1_86 : (Jvm.Cond.arrayOver (Jvm.ClassFile.FieldType.object "DrawerGloves$Glove")) ∈ lw_tbl := mm_1 (List.mem_of_getElem? (i := 86) rfl)
set_option maxRecDepth 20000 in
theorem m_1_87 : (Jvm.Cond.classLink "DrawerGloves$Drawer" (17 : Nat) "DrawerGloves$Deeds") ∈ gtbl := mg (mm_1 (List.mem_of_getElem? (i := 87) rfl)) rfl
set_option maxRecDepth 20000 in
theorem m_1_88 : (Jvm.Cond.instantiable "DrawerGloves$Deeds" (2 : Nat)) ∈ gtbl := mg (mm_1 (List.mem_of_getElem? (i := 88) rfl)) rfl
set_option maxRecDepth 20000 in
theorem m_1_89 : (Jvm.Cond.methodLink "DrawerGloves$Drawer" (19 : Nat) ({ cls := "DrawerGloves$Deeds", name := "<init>", desc := "()V" } : Jvm.MethodName)) ∈ gtbl := mg (mm_1 (List.mem_of_getElem? (i := 89) rfl)) rfl
set_option maxRecDepth 20000 in
theorem m_1_90 : (Jvm.Cond.instanceMethod ({ cls := "DrawerGloves$Deeds", name := "<init>", desc := "()V" } : Jvm.MethodName)) ∈ gtbl := mg (mm_1 (List.mem_of_getElem? (i := 90) rfl)) rfl
set_option maxRecDepth 20000 in
theorem m_1_91 : (Jvm.Cond.code ({ cls := "DrawerGloves$Deeds", name := "<init>", desc := "()V" } : Jvm.MethodName) prog_4_method_1_code (1 : Nat) (Option.none : Option Jvm.ClassFile.FieldType)) ∈ gtbl := mg (mm_1 (List.mem_of_getElem? (i := 91) rfl)) rfl
set_option maxRecDepth 20000 in
theorem m_1_92 : (Jvm.Cond.methodLink "DrawerGloves$Deeds" (3 : Nat) ({ cls := "java/lang/Object", name := "<init>", desc := "()V" } : Jvm.MethodName)) ∈ gtbl := mg (mm_1 (List.mem_of_getElem? (i := 92) rfl)) rfl
set_option maxRecDepth 20000 in
theorem m_1_93 : (Jvm.Cond.fieldLink "DrawerGloves$Deeds" (9 : Nat) "DrawerGloves$Deeds" "codes" "[I") ∈ gtbl := mg (mm_1 (List.mem_of_getElem? (i := 93) rfl)) rfl
set_option maxRecDepth 20000 in
theorem m_1_94 : (Jvm.Cond.fieldLink "DrawerGloves$Drawer" (114 : Nat) "DrawerGloves$Deeds" "codes" "[I") ∈ gtbl := mg (mm_1 (List.mem_of_getElem? (i := 94) rfl)) rfl
set_option maxRecDepth 20000 in
theorem m_1_95 : (Jvm.Cond.fieldLink "DrawerGloves" (42 : Nat) "DrawerGloves$Deeds" "size" "I") ∈ gtbl := mg (mm_1 (List.mem_of_getElem? (i := 95) rfl)) rfl
set_option maxRecDepth 20000 in
theorem m_1_96 : (Jvm.Cond.fieldLink "DrawerGloves$Deeds" (15 : Nat) "DrawerGloves$Deeds" "size" "I") ∈ gtbl := mg (mm_1 (List.mem_of_getElem? (i := 96) rfl)) rfl
set_option maxRecDepth 20000 in
theorem m_1_97 : (Jvm.Cond.fieldLink "DrawerGloves$Drawer" (57 : Nat) "DrawerGloves$Deeds" "size" "I") ∈ gtbl := mg (mm_1 (List.mem_of_getElem? (i := 97) rfl)) rfl
set_option maxRecDepth 20000 in
theorem m_1_98 : (Jvm.Cond.laysFinal "DrawerGloves$Deeds" "DrawerGloves$Deeds" "codes" "[I") ∈ gtbl := mg (mm_1 (List.mem_of_getElem? (i := 98) rfl)) rfl
set_option maxRecDepth 20000 in
theorem m_1_100 : (Jvm.Cond.lays "DrawerGloves$Deeds" "DrawerGloves$Deeds" "size" "I") ∈ gtbl := mg (mm_1 (List.mem_of_getElem? (i := 100) rfl)) rfl
set_option maxRecDepth 20000 in
theorem m_1_103 : (Jvm.Cond.instantiable "DrawerGloves$Glove" (6 : Nat)) ∈ gtbl := mg (mm_1 (List.mem_of_getElem? (i := 103) rfl)) rfl
set_option maxRecDepth 20000 in
theorem m_1_104 : (Jvm.Cond.methodLink "DrawerGloves$Drawer" (24 : Nat) ({ cls := "DrawerGloves$Glove", name := "<init>", desc := "()V" } : Jvm.MethodName)) ∈ gtbl := mg (mm_1 (List.mem_of_getElem? (i := 104) rfl)) rfl
set_option maxRecDepth 20000 in
theorem m_1_105 : (Jvm.Cond.instanceMethod ({ cls := "DrawerGloves$Glove", name := "<init>", desc := "()V" } : Jvm.MethodName)) ∈ gtbl := mg (mm_1 (List.mem_of_getElem? (i := 105) rfl)) rfl
set_option maxRecDepth 20000 in
theorem m_1_106 : (Jvm.Cond.code ({ cls := "DrawerGloves$Glove", name := "<init>", desc := "()V" } : Jvm.MethodName) prog_6_method_1_code (1 : Nat) (Option.none : Option Jvm.ClassFile.FieldType)) ∈ gtbl := mg (mm_1 (List.mem_of_getElem? (i := 106) rfl)) rfl
set_option maxRecDepth 20000 in
theorem m_1_107 : (Jvm.Cond.methodLink "DrawerGloves$Glove" (3 : Nat) ({ cls := "java/lang/Object", name := "<init>", desc := "()V" } : Jvm.MethodName)) ∈ gtbl := mg (mm_1 (List.mem_of_getElem? (i := 107) rfl)) rfl
set_option maxRecDepth 20000 in
theorem m_1_108 : (Jvm.Cond.fieldLink "DrawerGloves$Glove" (9 : Nat) "DrawerGloves$Glove" "kind" "I") ∈ gtbl := mg (mm_1 (List.mem_of_getElem? (i := 108) rfl)) rfl
set_option maxRecDepth 20000 in
theorem m_1_109 : (Jvm.Cond.fieldLink "DrawerGloves$Drawer" (40 : Nat) "DrawerGloves$Glove" "kind" "I") ∈ gtbl := mg (mm_1 (List.mem_of_getElem? (i := 109) rfl)) rfl
set_option maxRecDepth 20000 in
theorem m_1_110 : (Jvm.Cond.fieldLink "DrawerGloves$Chances" (50 : Nat) "DrawerGloves$Glove" "kind" "I") ∈ gtbl := mg (mm_1 (List.mem_of_getElem? (i := 110) rfl)) rfl
set_option maxRecDepth 20000 in
theorem m_1_111 : (Jvm.Cond.fieldLink "DrawerGloves$Guess" (61 : Nat) "DrawerGloves$Glove" "kind" "I") ∈ gtbl := mg (mm_1 (List.mem_of_getElem? (i := 111) rfl)) rfl
set_option maxRecDepth 20000 in
theorem m_1_112 : (Jvm.Cond.fieldLink "DrawerGloves$Makings" (83 : Nat) "DrawerGloves$Glove" "kind" "I") ∈ gtbl := mg (mm_1 (List.mem_of_getElem? (i := 112) rfl)) rfl
set_option maxRecDepth 20000 in
theorem m_1_113 : (Jvm.Cond.fieldLink "DrawerGloves$Glove" (15 : Nat) "DrawerGloves$Glove" "sort" "I") ∈ gtbl := mg (mm_1 (List.mem_of_getElem? (i := 113) rfl)) rfl
set_option maxRecDepth 20000 in
theorem m_1_114 : (Jvm.Cond.fieldLink "DrawerGloves$Drawer" (45 : Nat) "DrawerGloves$Glove" "sort" "I") ∈ gtbl := mg (mm_1 (List.mem_of_getElem? (i := 114) rfl)) rfl
set_option maxRecDepth 20000 in
theorem m_1_115 : (Jvm.Cond.fieldLink "DrawerGloves$Guess" (50 : Nat) "DrawerGloves$Glove" "sort" "I") ∈ gtbl := mg (mm_1 (List.mem_of_getElem? (i := 115) rfl)) rfl
set_option maxRecDepth 20000 in
theorem m_1_116 : (Jvm.Cond.fieldLink "DrawerGloves$Glove" (18 : Nat) "DrawerGloves$Glove" "hand" "I") ∈ gtbl := mg (mm_1 (List.mem_of_getElem? (i := 116) rfl)) rfl
set_option maxRecDepth 20000 in
theorem m_1_117 : (Jvm.Cond.fieldLink "DrawerGloves$Drawer" (50 : Nat) "DrawerGloves$Glove" "hand" "I") ∈ gtbl := mg (mm_1 (List.mem_of_getElem? (i := 117) rfl)) rfl
set_option maxRecDepth 20000 in
theorem m_1_118 : (Jvm.Cond.fieldLink "DrawerGloves$Chances" (65 : Nat) "DrawerGloves$Glove" "hand" "I") ∈ gtbl := mg (mm_1 (List.mem_of_getElem? (i := 118) rfl)) rfl
set_option maxRecDepth 20000 in
theorem m_1_119 : (Jvm.Cond.fieldLink "DrawerGloves$Guess" (58 : Nat) "DrawerGloves$Glove" "hand" "I") ∈ gtbl := mg (mm_1 (List.mem_of_getElem? (i := 119) rfl)) rfl
set_option maxRecDepth 20000 in
theorem m_1_120 : (Jvm.Cond.fieldLink "DrawerGloves$Glove" (21 : Nat) "DrawerGloves$Glove" "warm" "I") ∈ gtbl := mg (mm_1 (List.mem_of_getElem? (i := 120) rfl)) rfl
set_option maxRecDepth 20000 in
theorem m_1_121 : (Jvm.Cond.fieldLink "DrawerGloves$Drawer" (55 : Nat) "DrawerGloves$Glove" "warm" "I") ∈ gtbl := mg (mm_1 (List.mem_of_getElem? (i := 121) rfl)) rfl
set_option maxRecDepth 20000 in
theorem m_1_122 : (Jvm.Cond.fieldLink "DrawerGloves$Glove" (24 : Nat) "DrawerGloves$Glove" "wear" "I") ∈ gtbl := mg (mm_1 (List.mem_of_getElem? (i := 122) rfl)) rfl
set_option maxRecDepth 20000 in
theorem m_1_123 : (Jvm.Cond.fieldLink "DrawerGloves$Calendar" (81 : Nat) "DrawerGloves$Glove" "wear" "I") ∈ gtbl := mg (mm_1 (List.mem_of_getElem? (i := 123) rfl)) rfl
set_option maxRecDepth 20000 in
theorem m_1_124 : (Jvm.Cond.fieldLink "DrawerGloves$Drawer" (84 : Nat) "DrawerGloves$Glove" "wear" "I") ∈ gtbl := mg (mm_1 (List.mem_of_getElem? (i := 124) rfl)) rfl
set_option maxRecDepth 20000 in
theorem m_1_125 : (Jvm.Cond.fieldLink "DrawerGloves" (185 : Nat) "DrawerGloves$Glove" "wear" "I") ∈ gtbl := mg (mm_1 (List.mem_of_getElem? (i := 125) rfl)) rfl
set_option maxRecDepth 20000 in
theorem m_1_126 : (Jvm.Cond.fieldLink "DrawerGloves$Glove" (27 : Nat) "DrawerGloves$Glove" "where" "I") ∈ gtbl := mg (mm_1 (List.mem_of_getElem? (i := 126) rfl)) rfl
set_option maxRecDepth 20000 in
theorem m_1_127 : (Jvm.Cond.fieldLink "DrawerGloves$Drawer" (65 : Nat) "DrawerGloves$Glove" "where" "I") ∈ gtbl := mg (mm_1 (List.mem_of_getElem? (i := 127) rfl)) rfl
set_option maxRecDepth 20000 in
theorem m_1_128 : (Jvm.Cond.fieldLink "DrawerGloves" (220 : Nat) "DrawerGloves$Glove" "where" "I") ∈ gtbl := mg (mm_1 (List.mem_of_getElem? (i := 128) rfl)) rfl
set_option maxRecDepth 20000 in
theorem m_1_129 : (Jvm.Cond.lays "DrawerGloves$Glove" "DrawerGloves$Glove" "kind" "I") ∈ gtbl := mg (mm_1 (List.mem_of_getElem? (i := 129) rfl)) rfl
set_option maxRecDepth 20000 in
theorem m_1_131 : (Jvm.Cond.lays "DrawerGloves$Glove" "DrawerGloves$Glove" "sort" "I") ∈ gtbl := mg (mm_1 (List.mem_of_getElem? (i := 131) rfl)) rfl
set_option maxRecDepth 20000 in
theorem m_1_133 : (Jvm.Cond.lays "DrawerGloves$Glove" "DrawerGloves$Glove" "hand" "I") ∈ gtbl := mg (mm_1 (List.mem_of_getElem? (i := 133) rfl)) rfl
set_option maxRecDepth 20000 in
theorem m_1_135 : (Jvm.Cond.lays "DrawerGloves$Glove" "DrawerGloves$Glove" "warm" "I") ∈ gtbl := mg (mm_1 (List.mem_of_getElem? (i := 135) rfl)) rfl
set_option maxRecDepth 20000 in
theorem m_1_137 : (Jvm.Cond.lays "DrawerGloves$Glove" "DrawerGloves$Glove" "wear" "I") ∈ gtbl := mg (mm_1 (List.mem_of_getElem? (i := 137) rfl)) rfl
set_option maxRecDepth 20000 in
theorem m_1_139 : (Jvm.Cond.lays "DrawerGloves$Glove" "DrawerGloves$Glove" "where" "I") ∈ gtbl := mg (mm_1 (List.mem_of_getElem? (i := 139) rfl)) rfl
set_option maxRecDepth 20000 in
theorem m_1_142 : (Jvm.Cond.fieldLink "DrawerGloves$Drawer" (11 : Nat) "DrawerGloves$Drawer" "gloves" "[LDrawerGloves$Glove;") ∈ gtbl := mg (mm_1 (List.mem_of_getElem? (i := 142) rfl)) rfl
set_option maxRecDepth 20000 in
theorem m_1_143 : (Jvm.Cond.fieldLink "DrawerGloves$Makings" (30 : Nat) "DrawerGloves$Drawer" "gloves" "[LDrawerGloves$Glove;") ∈ gtbl := mg (mm_1 (List.mem_of_getElem? (i := 143) rfl)) rfl
set_option maxRecDepth 20000 in
theorem m_1_144 : (Jvm.Cond.fieldLink "DrawerGloves$Chances" (32 : Nat) "DrawerGloves$Drawer" "gloves" "[LDrawerGloves$Glove;") ∈ gtbl := mg (mm_1 (List.mem_of_getElem? (i := 144) rfl)) rfl
set_option maxRecDepth 20000 in
theorem m_1_145 : (Jvm.Cond.fieldLink "DrawerGloves$Calendar" (54 : Nat) "DrawerGloves$Drawer" "gloves" "[LDrawerGloves$Glove;") ∈ gtbl := mg (mm_1 (List.mem_of_getElem? (i := 145) rfl)) rfl
set_option maxRecDepth 20000 in
theorem m_1_146 : (Jvm.Cond.fieldLink "DrawerGloves$Guess" (38 : Nat) "DrawerGloves$Drawer" "gloves" "[LDrawerGloves$Glove;") ∈ gtbl := mg (mm_1 (List.mem_of_getElem? (i := 146) rfl)) rfl
set_option maxRecDepth 20000 in
theorem m_1_147 : (Jvm.Cond.fieldLink "DrawerGloves" (160 : Nat) "DrawerGloves$Drawer" "gloves" "[LDrawerGloves$Glove;") ∈ gtbl := mg (mm_1 (List.mem_of_getElem? (i := 147) rfl)) rfl
set_option maxRecDepth 20000 in
theorem m_1_148 : (Jvm.Cond.fieldLink "DrawerGloves$Drawer" (20 : Nat) "DrawerGloves$Drawer" "deeds" "LDrawerGloves$Deeds;") ∈ gtbl := mg (mm_1 (List.mem_of_getElem? (i := 148) rfl)) rfl
set_option maxRecDepth 20000 in
theorem m_1_149 : (Jvm.Cond.fieldLink "DrawerGloves" (204 : Nat) "DrawerGloves$Drawer" "deeds" "LDrawerGloves$Deeds;") ∈ gtbl := mg (mm_1 (List.mem_of_getElem? (i := 149) rfl)) rfl
set_option maxRecDepth 20000 in
theorem m_1_150 : (Jvm.Cond.fieldLink "DrawerGloves$Makings" (24 : Nat) "DrawerGloves$Drawer" "size" "I") ∈ gtbl := mg (mm_1 (List.mem_of_getElem? (i := 150) rfl)) rfl
set_option maxRecDepth 20000 in
theorem m_1_151 : (Jvm.Cond.fieldLink "DrawerGloves$Drawer" (31 : Nat) "DrawerGloves$Drawer" "size" "I") ∈ gtbl := mg (mm_1 (List.mem_of_getElem? (i := 151) rfl)) rfl
set_option maxRecDepth 20000 in
theorem m_1_152 : (Jvm.Cond.fieldLink "DrawerGloves$Chances" (28 : Nat) "DrawerGloves$Drawer" "size" "I") ∈ gtbl := mg (mm_1 (List.mem_of_getElem? (i := 152) rfl)) rfl
set_option maxRecDepth 20000 in
theorem m_1_153 : (Jvm.Cond.fieldLink "DrawerGloves$Calendar" (53 : Nat) "DrawerGloves$Drawer" "size" "I") ∈ gtbl := mg (mm_1 (List.mem_of_getElem? (i := 153) rfl)) rfl
set_option maxRecDepth 20000 in
theorem m_1_154 : (Jvm.Cond.fieldLink "DrawerGloves$Guess" (64 : Nat) "DrawerGloves$Drawer" "size" "I") ∈ gtbl := mg (mm_1 (List.mem_of_getElem? (i := 154) rfl)) rfl
set_option maxRecDepth 20000 in
theorem m_1_155 : (Jvm.Cond.fieldLink "DrawerGloves" (156 : Nat) "DrawerGloves$Drawer" "size" "I") ∈ gtbl := mg (mm_1 (List.mem_of_getElem? (i := 155) rfl)) rfl
set_option maxRecDepth 20000 in
theorem m_1_156 : (Jvm.Cond.fieldLink "DrawerGloves$Drawer" (35 : Nat) "DrawerGloves$Drawer" "room" "I") ∈ gtbl := mg (mm_1 (List.mem_of_getElem? (i := 156) rfl)) rfl
set_option maxRecDepth 20000 in
theorem m_1_157 : (Jvm.Cond.fieldLink "DrawerGloves$Makings" (72 : Nat) "DrawerGloves$Drawer" "room" "I") ∈ gtbl := mg (mm_1 (List.mem_of_getElem? (i := 157) rfl)) rfl
set_option maxRecDepth 20000 in
theorem m_1_158 : (Jvm.Cond.fieldLink "DrawerGloves" (322 : Nat) "DrawerGloves$Drawer" "room" "I") ∈ gtbl := mg (mm_1 (List.mem_of_getElem? (i := 158) rfl)) rfl
set_option maxRecDepth 20000 in
theorem m_1_159 : (Jvm.Cond.laysFinal "DrawerGloves$Drawer" "DrawerGloves$Drawer" "gloves" "[LDrawerGloves$Glove;") ∈ gtbl := mg (mm_1 (List.mem_of_getElem? (i := 159) rfl)) rfl
set_option maxRecDepth 20000 in
theorem m_1_161 : (Jvm.Cond.laysFinal "DrawerGloves$Drawer" "DrawerGloves$Drawer" "deeds" "LDrawerGloves$Deeds;") ∈ gtbl := mg (mm_1 (List.mem_of_getElem? (i := 161) rfl)) rfl
set_option maxRecDepth 20000 in
theorem m_1_163 : (Jvm.Cond.lays "DrawerGloves$Drawer" "DrawerGloves$Drawer" "size" "I") ∈ gtbl := mg (mm_1 (List.mem_of_getElem? (i := 163) rfl)) rfl
set_option maxRecDepth 20000 in
theorem m_1_165 : (Jvm.Cond.lays "DrawerGloves$Drawer" "DrawerGloves$Drawer" "room" "I") ∈ gtbl := mg (mm_1 (List.mem_of_getElem? (i := 165) rfl)) rfl
set_option maxRecDepth 20000 in
theorem m_1_168 : (Jvm.Cond.classLink "DrawerGloves" (35 : Nat) "DrawerGloves$Deeds") ∈ gtbl := mg (mm_1 (List.mem_of_getElem? (i := 168) rfl)) rfl
set_option maxRecDepth 20000 in
theorem m_1_169 : (Jvm.Cond.arrayOver (Jvm.ClassFile.FieldType.object "DrawerGloves$Deeds")) ∈ lw_tbl := mm_1 (List.mem_of_getElem? (i := 169) rfl)
set_option maxRecDepth 20000 in
theorem m_1_170 : (Jvm.Cond.methodLink "DrawerGloves" (41 : Nat) ({ cls := "DrawerGloves$Deeds", name := "<init>", desc := "()V" } : Jvm.MethodName)) ∈ gtbl := mg (mm_1 (List.mem_of_getElem? (i := 170) rfl)) rfl
set_option maxRecDepth 20000 in
theorem m_1_171 : (Jvm.Cond.classLink "DrawerGloves" (46 : Nat) "DrawerGloves$Makings") ∈ gtbl := mg (mm_1 (List.mem_of_getElem? (i := 171) rfl)) rfl
set_option maxRecDepth 20000 in
theorem m_1_172 : (Jvm.Cond.instantiable "DrawerGloves$Makings" (4 : Nat)) ∈ gtbl := mg (mm_1 (List.mem_of_getElem? (i := 172) rfl)) rfl
set_option maxRecDepth 20000 in
theorem m_1_173 : (Jvm.Cond.methodLink "DrawerGloves" (48 : Nat) ({ cls := "DrawerGloves$Makings", name := "<init>", desc := "()V" } : Jvm.MethodName)) ∈ gtbl := mg (mm_1 (List.mem_of_getElem? (i := 173) rfl)) rfl
set_option maxRecDepth 20000 in
theorem m_1_174 : (Jvm.Cond.instanceMethod ({ cls := "DrawerGloves$Makings", name := "<init>", desc := "()V" } : Jvm.MethodName)) ∈ gtbl := mg (mm_1 (List.mem_of_getElem? (i := 174) rfl)) rfl
set_option maxRecDepth 20000 in
theorem m_1_175 : (Jvm.Cond.code ({ cls := "DrawerGloves$Makings", name := "<init>", desc := "()V" } : Jvm.MethodName) prog_8_method_1_code (1 : Nat) (Option.none : Option Jvm.ClassFile.FieldType)) ∈ gtbl := mg (mm_1 (List.mem_of_getElem? (i := 175) rfl)) rfl
set_option maxRecDepth 20000 in
theorem m_1_176 : (Jvm.Cond.methodLink "DrawerGloves$Makings" (3 : Nat) ({ cls := "java/lang/Object", name := "<init>", desc := "()V" } : Jvm.MethodName)) ∈ gtbl := mg (mm_1 (List.mem_of_getElem? (i := 176) rfl)) rfl
set_option maxRecDepth 20000 in
theorem m_1_177 : (Jvm.Cond.fieldLink "DrawerGloves$Makings" (9 : Nat) "DrawerGloves$Makings" "worth" "[I") ∈ gtbl := mg (mm_1 (List.mem_of_getElem? (i := 177) rfl)) rfl
set_option maxRecDepth 20000 in
theorem m_1_178 : (Jvm.Cond.fieldLink "DrawerGloves$Makings" (15 : Nat) "DrawerGloves$Makings" "best" "[I") ∈ gtbl := mg (mm_1 (List.mem_of_getElem? (i := 178) rfl)) rfl
set_option maxRecDepth 20000 in
theorem m_1_179 : (Jvm.Cond.fieldLink "DrawerGloves$Rivals" (23 : Nat) "DrawerGloves$Makings" "best" "[I") ∈ gtbl := mg (mm_1 (List.mem_of_getElem? (i := 179) rfl)) rfl
set_option maxRecDepth 20000 in
theorem m_1_180 : (Jvm.Cond.fieldLink "DrawerGloves" (244 : Nat) "DrawerGloves$Makings" "best" "[I") ∈ gtbl := mg (mm_1 (List.mem_of_getElem? (i := 180) rfl)) rfl
set_option maxRecDepth 20000 in
theorem m_1_181 : (Jvm.Cond.fieldLink "DrawerGloves$Makings" (18 : Nat) "DrawerGloves$Makings" "most" "[I") ∈ gtbl := mg (mm_1 (List.mem_of_getElem? (i := 181) rfl)) rfl
set_option maxRecDepth 20000 in
theorem m_1_182 : (Jvm.Cond.fieldLink "DrawerGloves" (241 : Nat) "DrawerGloves$Makings" "most" "[I") ∈ gtbl := mg (mm_1 (List.mem_of_getElem? (i := 182) rfl)) rfl
set_option maxRecDepth 20000 in
theorem m_1_183 : (Jvm.Cond.fieldLink "DrawerGloves$Makings" (21 : Nat) "DrawerGloves$Makings" "enough" "[I") ∈ gtbl := mg (mm_1 (List.mem_of_getElem? (i := 183) rfl)) rfl
set_option maxRecDepth 20000 in
theorem m_1_184 : (Jvm.Cond.fieldLink "DrawerGloves" (298 : Nat) "DrawerGloves$Makings" "enough" "[I") ∈ gtbl := mg (mm_1 (List.mem_of_getElem? (i := 184) rfl)) rfl
set_option maxRecDepth 20000 in
theorem m_1_185 : (Jvm.Cond.laysFinal "DrawerGloves$Makings" "DrawerGloves$Makings" "worth" "[I") ∈ gtbl := mg (mm_1 (List.mem_of_getElem? (i := 185) rfl)) rfl
set_option maxRecDepth 20000 in
theorem m_1_187 : (Jvm.Cond.laysFinal "DrawerGloves$Makings" "DrawerGloves$Makings" "best" "[I") ∈ gtbl := mg (mm_1 (List.mem_of_getElem? (i := 187) rfl)) rfl
set_option maxRecDepth 20000 in
theorem m_1_189 : (Jvm.Cond.laysFinal "DrawerGloves$Makings" "DrawerGloves$Makings" "most" "[I") ∈ gtbl := mg (mm_1 (List.mem_of_getElem? (i := 189) rfl)) rfl
set_option maxRecDepth 20000 in
theorem m_1_191 : (Jvm.Cond.laysFinal "DrawerGloves$Makings" "DrawerGloves$Makings" "enough" "[I") ∈ gtbl := mg (mm_1 (List.mem_of_getElem? (i := 191) rfl)) rfl
set_option maxRecDepth 20000 in
theorem m_1_194 : (Jvm.Cond.classLink "DrawerGloves" (53 : Nat) "DrawerGloves$Calendar") ∈ gtbl := mg (mm_1 (List.mem_of_getElem? (i := 194) rfl)) rfl
set_option maxRecDepth 20000 in
theorem m_1_195 : (Jvm.Cond.instantiable "DrawerGloves$Calendar" (7 : Nat)) ∈ gtbl := mg (mm_1 (List.mem_of_getElem? (i := 195) rfl)) rfl
set_option maxRecDepth 20000 in
theorem m_1_196 : (Jvm.Cond.methodLink "DrawerGloves" (55 : Nat) ({ cls := "DrawerGloves$Calendar", name := "<init>", desc := "()V" } : Jvm.MethodName)) ∈ gtbl := mg (mm_1 (List.mem_of_getElem? (i := 196) rfl)) rfl
set_option maxRecDepth 20000 in
theorem m_1_197 : (Jvm.Cond.instanceMethod ({ cls := "DrawerGloves$Calendar", name := "<init>", desc := "()V" } : Jvm.MethodName)) ∈ gtbl := mg (mm_1 (List.mem_of_getElem? (i := 197) rfl)) rfl
set_option maxRecDepth 20000 in
theorem m_1_198 : (Jvm.Cond.code ({ cls := "DrawerGloves$Calendar", name := "<init>", desc := "()V" } : Jvm.MethodName) prog_2_method_1_code (1 : Nat) (Option.none : Option Jvm.ClassFile.FieldType)) ∈ gtbl := mg (mm_1 (List.mem_of_getElem? (i := 198) rfl)) rfl
set_option maxRecDepth 20000 in
theorem m_1_199 : (Jvm.Cond.methodLink "DrawerGloves$Calendar" (3 : Nat) ({ cls := "java/lang/Object", name := "<init>", desc := "()V" } : Jvm.MethodName)) ∈ gtbl := mg (mm_1 (List.mem_of_getElem? (i := 199) rfl)) rfl
set_option maxRecDepth 20000 in
theorem m_1_200 : (Jvm.Cond.classLink "DrawerGloves$Calendar" (9 : Nat) "DrawerGloves$Drawer") ∈ gtbl := mg (mm_1 (List.mem_of_getElem? (i := 200) rfl)) rfl
set_option maxRecDepth 20000 in
theorem m_1_201 : (Jvm.Cond.methodLink "DrawerGloves$Calendar" (11 : Nat) ({ cls := "DrawerGloves$Drawer", name := "<init>", desc := "()V" } : Jvm.MethodName)) ∈ gtbl := mg (mm_1 (List.mem_of_getElem? (i := 201) rfl)) rfl
set_option maxRecDepth 20000 in
theorem m_1_202 : (Jvm.Cond.fieldLink "DrawerGloves$Calendar" (12 : Nat) "DrawerGloves$Calendar" "worn" "LDrawerGloves$Drawer;") ∈ gtbl := mg (mm_1 (List.mem_of_getElem? (i := 202) rfl)) rfl
set_option maxRecDepth 20000 in
theorem m_1_203 : (Jvm.Cond.fieldLink "DrawerGloves$Calendar" (18 : Nat) "DrawerGloves$Calendar" "codes" "[I") ∈ gtbl := mg (mm_1 (List.mem_of_getElem? (i := 203) rfl)) rfl
set_option maxRecDepth 20000 in
theorem m_1_204 : (Jvm.Cond.fieldLink "DrawerGloves$Calendar" (22 : Nat) "DrawerGloves$Calendar" "way" "[I") ∈ gtbl := mg (mm_1 (List.mem_of_getElem? (i := 204) rfl)) rfl
set_option maxRecDepth 20000 in
theorem m_1_205 : (Jvm.Cond.fieldLink "DrawerGloves$Calendar" (25 : Nat) "DrawerGloves$Calendar" "bestWay" "[I") ∈ gtbl := mg (mm_1 (List.mem_of_getElem? (i := 205) rfl)) rfl
set_option maxRecDepth 20000 in
theorem m_1_206 : (Jvm.Cond.fieldLink "DrawerGloves$Calendar" (32 : Nat) "DrawerGloves$Calendar" "size" "I") ∈ gtbl := mg (mm_1 (List.mem_of_getElem? (i := 206) rfl)) rfl
set_option maxRecDepth 20000 in
theorem m_1_207 : (Jvm.Cond.fieldLink "DrawerGloves$Calendar" (64 : Nat) "DrawerGloves$Calendar" "dearest" "I") ∈ gtbl := mg (mm_1 (List.mem_of_getElem? (i := 207) rfl)) rfl
set_option maxRecDepth 20000 in
theorem m_1_208 : (Jvm.Cond.fieldLink "DrawerGloves$Calendar" (36 : Nat) "DrawerGloves$Calendar" "best" "I") ∈ gtbl := mg (mm_1 (List.mem_of_getElem? (i := 208) rfl)) rfl
set_option maxRecDepth 20000 in
theorem m_1_209 : (Jvm.Cond.laysFinal "DrawerGloves$Calendar" "DrawerGloves$Calendar" "worn" "LDrawerGloves$Drawer;") ∈ gtbl := mg (mm_1 (List.mem_of_getElem? (i := 209) rfl)) rfl
set_option maxRecDepth 20000 in
theorem m_1_211 : (Jvm.Cond.laysFinal "DrawerGloves$Calendar" "DrawerGloves$Calendar" "codes" "[I") ∈ gtbl := mg (mm_1 (List.mem_of_getElem? (i := 211) rfl)) rfl
set_option maxRecDepth 20000 in
theorem m_1_213 : (Jvm.Cond.laysFinal "DrawerGloves$Calendar" "DrawerGloves$Calendar" "way" "[I") ∈ gtbl := mg (mm_1 (List.mem_of_getElem? (i := 213) rfl)) rfl
set_option maxRecDepth 20000 in
theorem m_1_215 : (Jvm.Cond.laysFinal "DrawerGloves$Calendar" "DrawerGloves$Calendar" "bestWay" "[I") ∈ gtbl := mg (mm_1 (List.mem_of_getElem? (i := 215) rfl)) rfl
set_option maxRecDepth 20000 in
theorem m_1_217 : (Jvm.Cond.lays "DrawerGloves$Calendar" "DrawerGloves$Calendar" "size" "I") ∈ gtbl := mg (mm_1 (List.mem_of_getElem? (i := 217) rfl)) rfl
set_option maxRecDepth 20000 in
theorem m_1_219 : (Jvm.Cond.lays "DrawerGloves$Calendar" "DrawerGloves$Calendar" "dearest" "I") ∈ gtbl := mg (mm_1 (List.mem_of_getElem? (i := 219) rfl)) rfl
set_option maxRecDepth 20000 in
theorem m_1_221 : (Jvm.Cond.lays "DrawerGloves$Calendar" "DrawerGloves$Calendar" "best" "I") ∈ gtbl := mg (mm_1 (List.mem_of_getElem? (i := 221) rfl)) rfl
set_option maxRecDepth 20000 in
theorem m_1_224 : (Jvm.Cond.classLink "DrawerGloves" (60 : Nat) "DrawerGloves$Guess") ∈ gtbl := mg (mm_1 (List.mem_of_getElem? (i := 224) rfl)) rfl
set_option maxRecDepth 20000 in
theorem m_1_225 : (Jvm.Cond.instantiable "DrawerGloves$Guess" (2 : Nat)) ∈ gtbl := mg (mm_1 (List.mem_of_getElem? (i := 225) rfl)) rfl
set_option maxRecDepth 20000 in
theorem m_1_226 : (Jvm.Cond.methodLink "DrawerGloves" (62 : Nat) ({ cls := "DrawerGloves$Guess", name := "<init>", desc := "()V" } : Jvm.MethodName)) ∈ gtbl := mg (mm_1 (List.mem_of_getElem? (i := 226) rfl)) rfl
set_option maxRecDepth 20000 in
theorem m_1_227 : (Jvm.Cond.instanceMethod ({ cls := "DrawerGloves$Guess", name := "<init>", desc := "()V" } : Jvm.MethodName)) ∈ gtbl := mg (mm_1 (List.mem_of_getElem? (i := 227) rfl)) rfl
set_option maxRecDepth 20000 in
theorem m_1_228 : (Jvm.Cond.code ({ cls := "DrawerGloves$Guess", name := "<init>", desc := "()V" } : Jvm.MethodName) prog_7_method_1_code (1 : Nat) (Option.none : Option Jvm.ClassFile.FieldType)) ∈ gtbl := mg (mm_1 (List.mem_of_getElem? (i := 228) rfl)) rfl
set_option maxRecDepth 20000 in
theorem m_1_229 : (Jvm.Cond.methodLink "DrawerGloves$Guess" (3 : Nat) ({ cls := "java/lang/Object", name := "<init>", desc := "()V" } : Jvm.MethodName)) ∈ gtbl := mg (mm_1 (List.mem_of_getElem? (i := 229) rfl)) rfl
set_option maxRecDepth 20000 in
theorem m_1_230 : (Jvm.Cond.classLink "DrawerGloves$Guess" (9 : Nat) "DrawerGloves$Glove") ∈ gtbl := mg (mm_1 (List.mem_of_getElem? (i := 230) rfl)) rfl
set_option maxRecDepth 20000 in
theorem m_1_231 : (Jvm.Cond.methodLink "DrawerGloves$Guess" (11 : Nat) ({ cls := "DrawerGloves$Glove", name := "<init>", desc := "()V" } : Jvm.MethodName)) ∈ gtbl := mg (mm_1 (List.mem_of_getElem? (i := 231) rfl)) rfl
set_option maxRecDepth 20000 in
theorem m_1_232 : (Jvm.Cond.fieldLink "DrawerGloves$Guess" (12 : Nat) "DrawerGloves$Guess" "maybe" "LDrawerGloves$Glove;") ∈ gtbl := mg (mm_1 (List.mem_of_getElem? (i := 232) rfl)) rfl
set_option maxRecDepth 20000 in
theorem m_1_233 : (Jvm.Cond.fieldLink "DrawerGloves$Guess" (18 : Nat) "DrawerGloves$Guess" "outcome" "[I") ∈ gtbl := mg (mm_1 (List.mem_of_getElem? (i := 233) rfl)) rfl
set_option maxRecDepth 20000 in
theorem m_1_234 : (Jvm.Cond.laysFinal "DrawerGloves$Guess" "DrawerGloves$Guess" "maybe" "LDrawerGloves$Glove;") ∈ gtbl := mg (mm_1 (List.mem_of_getElem? (i := 234) rfl)) rfl
set_option maxRecDepth 20000 in
theorem m_1_236 : (Jvm.Cond.laysFinal "DrawerGloves$Guess" "DrawerGloves$Guess" "outcome" "[I") ∈ gtbl := mg (mm_1 (List.mem_of_getElem? (i := 236) rfl)) rfl
set_option maxRecDepth 20000 in
theorem m_1_239 : (Jvm.Cond.classLink "DrawerGloves" (67 : Nat) "DrawerGloves$Rivals") ∈ gtbl := mg (mm_1 (List.mem_of_getElem? (i := 239) rfl)) rfl
set_option maxRecDepth 20000 in
theorem m_2_0 : (Jvm.Cond.instantiable "DrawerGloves$Rivals" (2 : Nat)) ∈ gtbl := mg (mm_2 (List.mem_of_getElem? (i := 0) rfl)) rfl
set_option maxRecDepth 20000 in
theorem m_2_1 : (Jvm.Cond.methodLink "DrawerGloves" (69 : Nat) ({ cls := "DrawerGloves$Rivals", name := "<init>", desc := "()V" } : Jvm.MethodName)) ∈ gtbl := mg (mm_2 (List.mem_of_getElem? (i := 1) rfl)) rfl
set_option maxRecDepth 20000 in
theorem m_2_2 : (Jvm.Cond.instanceMethod ({ cls := "DrawerGloves$Rivals", name := "<init>", desc := "()V" } : Jvm.MethodName)) ∈ gtbl := mg (mm_2 (List.mem_of_getElem? (i := 2) rfl)) rfl
set_option maxRecDepth 20000 in
theorem m_2_3 : (Jvm.Cond.code ({ cls := "DrawerGloves$Rivals", name := "<init>", desc := "()V" } : Jvm.MethodName) prog_10_method_1_code (2 : Nat) (Option.none : Option Jvm.ClassFile.FieldType)) ∈ gtbl := mg (mm_2 (List.mem_of_getElem? (i := 3) rfl)) rfl
set_option maxRecDepth 20000 in
theorem m_2_4 : (Jvm.Cond.methodLink "DrawerGloves$Rivals" (3 : Nat) ({ cls := "java/lang/Object", name := "<init>", desc := "()V" } : Jvm.MethodName)) ∈ gtbl := mg (mm_2 (List.mem_of_getElem? (i := 4) rfl)) rfl
set_option maxRecDepth 20000 in
theorem m_2_5 : (Jvm.Cond.fieldLink "DrawerGloves$Rivals" (11 : Nat) "DrawerGloves$Rivals" "known" "[I") ∈ gtbl := mg (mm_2 (List.mem_of_getElem? (i := 5) rfl)) rfl
set_option maxRecDepth 20000 in
theorem m_2_6 : (Jvm.Cond.fieldLink "DrawerGloves$Rivals" (15 : Nat) "DrawerGloves$Rivals" "inThrees" "[I") ∈ gtbl := mg (mm_2 (List.mem_of_getElem? (i := 6) rfl)) rfl
set_option maxRecDepth 20000 in
theorem m_2_7 : (Jvm.Cond.laysFinal "DrawerGloves$Rivals" "DrawerGloves$Rivals" "known" "[I") ∈ gtbl := mg (mm_2 (List.mem_of_getElem? (i := 7) rfl)) rfl
set_option maxRecDepth 20000 in
theorem m_2_9 : (Jvm.Cond.laysFinal "DrawerGloves$Rivals" "DrawerGloves$Rivals" "inThrees" "[I") ∈ gtbl := mg (mm_2 (List.mem_of_getElem? (i := 9) rfl)) rfl
set_option maxRecDepth 20000 in
theorem m_2_12 : (Jvm.Cond.classLink "DrawerGloves" (74 : Nat) "DrawerGloves$Chances") ∈ gtbl := mg (mm_2 (List.mem_of_getElem? (i := 12) rfl)) rfl
set_option maxRecDepth 20000 in
theorem m_2_13 : (Jvm.Cond.instantiable "DrawerGloves$Chances" (3 : Nat)) ∈ gtbl := mg (mm_2 (List.mem_of_getElem? (i := 13) rfl)) rfl
set_option maxRecDepth 20000 in
theorem m_2_14 : (Jvm.Cond.methodLink "DrawerGloves" (76 : Nat) ({ cls := "DrawerGloves$Chances", name := "<init>", desc := "()V" } : Jvm.MethodName)) ∈ gtbl := mg (mm_2 (List.mem_of_getElem? (i := 14) rfl)) rfl
set_option maxRecDepth 20000 in
theorem m_2_15 : (Jvm.Cond.instanceMethod ({ cls := "DrawerGloves$Chances", name := "<init>", desc := "()V" } : Jvm.MethodName)) ∈ gtbl := mg (mm_2 (List.mem_of_getElem? (i := 15) rfl)) rfl
set_option maxRecDepth 20000 in
theorem m_2_16 : (Jvm.Cond.code ({ cls := "DrawerGloves$Chances", name := "<init>", desc := "()V" } : Jvm.MethodName) prog_3_method_1_code (1 : Nat) (Option.none : Option Jvm.ClassFile.FieldType)) ∈ gtbl := mg (mm_2 (List.mem_of_getElem? (i := 16) rfl)) rfl
set_option maxRecDepth 20000 in
theorem m_2_17 : (Jvm.Cond.methodLink "DrawerGloves$Chances" (3 : Nat) ({ cls := "java/lang/Object", name := "<init>", desc := "()V" } : Jvm.MethodName)) ∈ gtbl := mg (mm_2 (List.mem_of_getElem? (i := 17) rfl)) rfl
set_option maxRecDepth 20000 in
theorem m_2_18 : (Jvm.Cond.fieldLink "DrawerGloves$Chances" (9 : Nat) "DrawerGloves$Chances" "loss" "[I") ∈ gtbl := mg (mm_2 (List.mem_of_getElem? (i := 18) rfl)) rfl
set_option maxRecDepth 20000 in
theorem m_2_19 : (Jvm.Cond.fieldLink "DrawerGloves$Chances" (15 : Nat) "DrawerGloves$Chances" "upper" "J") ∈ gtbl := mg (mm_2 (List.mem_of_getElem? (i := 19) rfl)) rfl
set_option maxRecDepth 20000 in
theorem m_2_20 : (Jvm.Cond.fieldLink "DrawerGloves" (315 : Nat) "DrawerGloves$Chances" "upper" "J") ∈ gtbl := mg (mm_2 (List.mem_of_getElem? (i := 20) rfl)) rfl
set_option maxRecDepth 20000 in
theorem m_2_21 : (Jvm.Cond.fieldLink "DrawerGloves$Chances" (19 : Nat) "DrawerGloves$Chances" "lower" "J") ∈ gtbl := mg (mm_2 (List.mem_of_getElem? (i := 21) rfl)) rfl
set_option maxRecDepth 20000 in
theorem m_2_22 : (Jvm.Cond.fieldLink "DrawerGloves" (319 : Nat) "DrawerGloves$Chances" "lower" "J") ∈ gtbl := mg (mm_2 (List.mem_of_getElem? (i := 22) rfl)) rfl
set_option maxRecDepth 20000 in
theorem m_2_23 : (Jvm.Cond.laysFinal "DrawerGloves$Chances" "DrawerGloves$Chances" "loss" "[I") ∈ gtbl := mg (mm_2 (List.mem_of_getElem? (i := 23) rfl)) rfl
set_option maxRecDepth 20000 in
theorem m_2_25 : (Jvm.Cond.lays "DrawerGloves$Chances" "DrawerGloves$Chances" "upper" "J") ∈ gtbl := mg (mm_2 (List.mem_of_getElem? (i := 25) rfl)) rfl
set_option maxRecDepth 20000 in
theorem m_2_27 : (Jvm.Cond.lays "DrawerGloves$Chances" "DrawerGloves$Chances" "lower" "J") ∈ gtbl := mg (mm_2 (List.mem_of_getElem? (i := 27) rfl)) rfl
set_option maxRecDepth 20000 in
theorem m_2_30 : (Jvm.Cond.fieldLink "DrawerGloves" (14 : Nat) "DrawerGloves" "rows" "LDrawerGloves$Rows;") ∈ gtbl := mg (mm_2 (List.mem_of_getElem? (i := 30) rfl)) rfl
set_option maxRecDepth 20000 in
theorem m_2_31 : (Jvm.Cond.fieldLink "DrawerGloves" (18 : Nat) "DrawerGloves" "texts" "LDrawerGloves$Rows;") ∈ gtbl := mg (mm_2 (List.mem_of_getElem? (i := 31) rfl)) rfl
set_option maxRecDepth 20000 in
theorem m_2_32 : (Jvm.Cond.fieldLink "DrawerGloves" (24 : Nat) "DrawerGloves" "reading" "LDrawerGloves$Reading;") ∈ gtbl := mg (mm_2 (List.mem_of_getElem? (i := 32) rfl)) rfl
set_option maxRecDepth 20000 in
theorem m_2_33 : (Jvm.Cond.fieldLink "DrawerGloves" (31 : Nat) "DrawerGloves" "chest" "LDrawerGloves$Drawer;") ∈ gtbl := mg (mm_2 (List.mem_of_getElem? (i := 33) rfl)) rfl
set_option maxRecDepth 20000 in
theorem m_2_34 : (Jvm.Cond.fieldLink "DrawerGloves" (37 : Nat) "DrawerGloves" "kept" "[LDrawerGloves$Deeds;") ∈ gtbl := mg (mm_2 (List.mem_of_getElem? (i := 34) rfl)) rfl
set_option maxRecDepth 20000 in
theorem m_2_35 : (Jvm.Cond.fieldLink "DrawerGloves" (49 : Nat) "DrawerGloves" "makings" "LDrawerGloves$Makings;") ∈ gtbl := mg (mm_2 (List.mem_of_getElem? (i := 35) rfl)) rfl
set_option maxRecDepth 20000 in
theorem m_2_36 : (Jvm.Cond.fieldLink "DrawerGloves" (56 : Nat) "DrawerGloves" "calendar" "LDrawerGloves$Calendar;") ∈ gtbl := mg (mm_2 (List.mem_of_getElem? (i := 36) rfl)) rfl
set_option maxRecDepth 20000 in
theorem m_2_37 : (Jvm.Cond.fieldLink "DrawerGloves" (63 : Nat) "DrawerGloves" "guess" "LDrawerGloves$Guess;") ∈ gtbl := mg (mm_2 (List.mem_of_getElem? (i := 37) rfl)) rfl
set_option maxRecDepth 20000 in
theorem m_2_38 : (Jvm.Cond.fieldLink "DrawerGloves" (70 : Nat) "DrawerGloves" "rivals" "LDrawerGloves$Rivals;") ∈ gtbl := mg (mm_2 (List.mem_of_getElem? (i := 38) rfl)) rfl
set_option maxRecDepth 20000 in
theorem m_2_39 : (Jvm.Cond.fieldLink "DrawerGloves" (77 : Nat) "DrawerGloves" "chances" "LDrawerGloves$Chances;") ∈ gtbl := mg (mm_2 (List.mem_of_getElem? (i := 39) rfl)) rfl
set_option maxRecDepth 20000 in
theorem m_2_40 : (Jvm.Cond.fieldLink "DrawerGloves" (81 : Nat) "DrawerGloves" "found" "[I") ∈ gtbl := mg (mm_2 (List.mem_of_getElem? (i := 40) rfl)) rfl
set_option maxRecDepth 20000 in
theorem m_2_41 : (Jvm.Cond.fieldLink "DrawerGloves" (85 : Nat) "DrawerGloves" "lastFound" "I") ∈ gtbl := mg (mm_2 (List.mem_of_getElem? (i := 41) rfl)) rfl
set_option maxRecDepth 20000 in
theorem m_2_42 : (Jvm.Cond.fieldLink "DrawerGloves" (88 : Nat) "DrawerGloves" "lastAsked" "I") ∈ gtbl := mg (mm_2 (List.mem_of_getElem? (i := 42) rfl)) rfl
set_option maxRecDepth 20000 in
theorem m_2_43 : (Jvm.Cond.laysFinal "DrawerGloves" "DrawerGloves" "rows" "LDrawerGloves$Rows;") ∈ gtbl := mg (mm_2 (List.mem_of_getElem? (i := 43) rfl)) rfl
set_option maxRecDepth 20000 in
theorem m_2_45 : (Jvm.Cond.laysFinal "DrawerGloves" "DrawerGloves" "texts" "LDrawerGloves$Rows;") ∈ gtbl := mg (mm_2 (List.mem_of_getElem? (i := 45) rfl)) rfl
set_option maxRecDepth 20000 in
theorem m_2_47 : (Jvm.Cond.laysFinal "DrawerGloves" "DrawerGloves" "reading" "LDrawerGloves$Reading;") ∈ gtbl := mg (mm_2 (List.mem_of_getElem? (i := 47) rfl)) rfl
set_option maxRecDepth 20000 in
theorem m_2_49 : (Jvm.Cond.laysFinal "DrawerGloves" "DrawerGloves" "chest" "LDrawerGloves$Drawer;") ∈ gtbl := mg (mm_2 (List.mem_of_getElem? (i := 49) rfl)) rfl
set_option maxRecDepth 20000 in
theorem m_2_51 : (Jvm.Cond.laysFinal "DrawerGloves" "DrawerGloves" "kept" "[LDrawerGloves$Deeds;") ∈ gtbl := mg (mm_2 (List.mem_of_getElem? (i := 51) rfl)) rfl
set_option maxRecDepth 20000 in
theorem m_2_53 : (Jvm.Cond.laysFinal "DrawerGloves" "DrawerGloves" "makings" "LDrawerGloves$Makings;") ∈ gtbl := mg (mm_2 (List.mem_of_getElem? (i := 53) rfl)) rfl
set_option maxRecDepth 20000 in
theorem m_2_55 : (Jvm.Cond.laysFinal "DrawerGloves" "DrawerGloves" "calendar" "LDrawerGloves$Calendar;") ∈ gtbl := mg (mm_2 (List.mem_of_getElem? (i := 55) rfl)) rfl
set_option maxRecDepth 20000 in
theorem m_2_57 : (Jvm.Cond.laysFinal "DrawerGloves" "DrawerGloves" "guess" "LDrawerGloves$Guess;") ∈ gtbl := mg (mm_2 (List.mem_of_getElem? (i := 57) rfl)) rfl
set_option maxRecDepth 20000 in
theorem m_2_59 : (Jvm.Cond.laysFinal "DrawerGloves" "DrawerGloves" "rivals" "LDrawerGloves$Rivals;") ∈ gtbl := mg (mm_2 (List.mem_of_getElem? (i := 59) rfl)) rfl
set_option maxRecDepth 20000 in
theorem m_2_61 : (Jvm.Cond.laysFinal "DrawerGloves" "DrawerGloves" "chances" "LDrawerGloves$Chances;") ∈ gtbl := mg (mm_2 (List.mem_of_getElem? (i := 61) rfl)) rfl
set_option maxRecDepth 20000 in
theorem m_2_63 : (Jvm.Cond.laysFinal "DrawerGloves" "DrawerGloves" "found" "[I") ∈ gtbl := mg (mm_2 (List.mem_of_getElem? (i := 63) rfl)) rfl
set_option maxRecDepth 20000 in
theorem m_2_65 : (Jvm.Cond.lays "DrawerGloves" "DrawerGloves" "lastFound" "I") ∈ gtbl := mg (mm_2 (List.mem_of_getElem? (i := 65) rfl)) rfl
set_option maxRecDepth 20000 in
theorem m_2_67 : (Jvm.Cond.lays "DrawerGloves" "DrawerGloves" "lastAsked" "I") ∈ gtbl := mg (mm_2 (List.mem_of_getElem? (i := 67) rfl)) rfl
set_option maxRecDepth 20000 in
theorem m_2_70 : (Jvm.Cond.methodLink "DrawerGlovesLaw" (54 : Nat) ({ cls := "DrawerGloves", name := "wear", desc := "(II)I" } : Jvm.MethodName)) ∈ gtbl := mg (mm_2 (List.mem_of_getElem? (i := 70) rfl)) rfl
set_option maxRecDepth 20000 in
theorem m_2_71 : (Jvm.Cond.instanceMethod ({ cls := "DrawerGloves", name := "wear", desc := "(II)I" } : Jvm.MethodName)) ∈ gtbl := mg (mm_2 (List.mem_of_getElem? (i := 71) rfl)) rfl
set_option maxRecDepth 20000 in
theorem m_2_72 : (Jvm.Cond.selects "DrawerGloves" ({ cls := "DrawerGloves", name := "wear", desc := "(II)I" } : Jvm.MethodName) ({ cls := "DrawerGloves", name := "wear", desc := "(II)I" } : Jvm.MethodName)) ∈ gtbl := mg (mm_2 (List.mem_of_getElem? (i := 72) rfl)) rfl
set_option maxRecDepth 20000 in
theorem m_2_73 : (Jvm.Cond.code ({ cls := "DrawerGloves", name := "wear", desc := "(II)I" } : Jvm.MethodName) prog_1_method_15_code (4 : Nat) (Option.some Jvm.ClassFile.FieldType.int)) ∈ gtbl := mg (mm_2 (List.mem_of_getElem? (i := 73) rfl)) rfl
set_option maxRecDepth 20000 in
theorem m_2_74 : (Jvm.Cond.methodLink "DrawerGloves" (157 : Nat) ({ cls := "DrawerGloves$Drawer", name := "has", desc := "(I)Z" } : Jvm.MethodName)) ∈ gtbl := mg (mm_2 (List.mem_of_getElem? (i := 74) rfl)) rfl
set_option maxRecDepth 20000 in
theorem m_2_75 : (Jvm.Cond.instanceMethod ({ cls := "DrawerGloves$Drawer", name := "has", desc := "(I)Z" } : Jvm.MethodName)) ∈ gtbl := mg (mm_2 (List.mem_of_getElem? (i := 75) rfl)) rfl
set_option maxRecDepth 20000 in
theorem m_2_76 : (Jvm.Cond.selects "DrawerGloves$Drawer" ({ cls := "DrawerGloves$Drawer", name := "has", desc := "(I)Z" } : Jvm.MethodName) ({ cls := "DrawerGloves$Drawer", name := "has", desc := "(I)Z" } : Jvm.MethodName)) ∈ gtbl := mg (mm_2 (List.mem_of_getElem? (i := 76) rfl)) rfl
set_option maxRecDepth 20000 in
theorem m_2_77 : (Jvm.Cond.code ({ cls := "DrawerGloves$Drawer", name := "has", desc := "(I)Z" } : Jvm.MethodName) prog_5_method_3_code (2 : Nat) (Option.some Jvm.ClassFile.FieldType.boolean)) ∈ gtbl := mg (mm_2 (List.mem_of_getElem? (i := 77) rfl)) rfl
set_option maxRecDepth 20000 in
theorem m_2_78 : (Jvm.Cond.methodLink "DrawerGloves" (197 : Nat) ({ cls := "DrawerGloves$Glove", name := "goodWith", desc := "(LDrawerGloves$Glove;)I" } : Jvm.MethodName)) ∈ gtbl := mg (mm_2 (List.mem_of_getElem? (i := 78) rfl)) rfl
set_option maxRecDepth 20000 in
theorem m_2_79 : (Jvm.Cond.instanceMethod ({ cls := "DrawerGloves$Glove", name := "goodWith", desc := "(LDrawerGloves$Glove;)I" } : Jvm.MethodName)) ∈ gtbl := mg (mm_2 (List.mem_of_getElem? (i := 79) rfl)) rfl
set_option maxRecDepth 20000 in
theorem m_2_80 : (Jvm.Cond.selects "DrawerGloves$Glove" ({ cls := "DrawerGloves$Glove", name := "goodWith", desc := "(LDrawerGloves$Glove;)I" } : Jvm.MethodName) ({ cls := "DrawerGloves$Glove", name := "goodWith", desc := "(LDrawerGloves$Glove;)I" } : Jvm.MethodName)) ∈ gtbl := mg (mm_2 (List.mem_of_getElem? (i := 80) rfl)) rfl
set_option maxRecDepth 20000 in
theorem m_2_81 : (Jvm.Cond.code ({ cls := "DrawerGloves$Glove", name := "goodWith", desc := "(LDrawerGloves$Glove;)I" } : Jvm.MethodName) prog_6_method_8_code (3 : Nat) (Option.some Jvm.ClassFile.FieldType.int)) ∈ gtbl := mg (mm_2 (List.mem_of_getElem? (i := 81) rfl)) rfl
set_option maxRecDepth 20000 in
theorem m_2_82 : (Jvm.Cond.methodLink "DrawerGloves$Glove" (47 : Nat) ({ cls := "DrawerGloves$Glove", name := "makesPairWith", desc := "(LDrawerGloves$Glove;)Z" } : Jvm.MethodName)) ∈ gtbl := mg (mm_2 (List.mem_of_getElem? (i := 82) rfl)) rfl
set_option maxRecDepth 20000 in
theorem m_2_83 : (Jvm.Cond.instanceMethod ({ cls := "DrawerGloves$Glove", name := "makesPairWith", desc := "(LDrawerGloves$Glove;)Z" } : Jvm.MethodName)) ∈ gtbl := mg (mm_2 (List.mem_of_getElem? (i := 83) rfl)) rfl
set_option maxRecDepth 20000 in
theorem m_2_84 : (Jvm.Cond.selects "DrawerGloves$Glove" ({ cls := "DrawerGloves$Glove", name := "makesPairWith", desc := "(LDrawerGloves$Glove;)Z" } : Jvm.MethodName) ({ cls := "DrawerGloves$Glove", name := "makesPairWith", desc := "(LDrawerGloves$Glove;)Z" } : Jvm.MethodName)) ∈ gtbl := mg (mm_2 (List.mem_of_getElem? (i := 84) rfl)) rfl
set_option maxRecDepth 20000 in
theorem m_2_85 : (Jvm.Cond.code ({ cls := "DrawerGloves$Glove", name := "makesPairWith", desc := "(LDrawerGloves$Glove;)Z" } : Jvm.MethodName) prog_6_method_7_code (2 : Nat) (Option.some Jvm.ClassFile.FieldType.boolean)) ∈ gtbl := mg (mm_2 (List.mem_of_getElem? (i := 85) rfl)) rfl
set_option maxRecDepth 20000 in
theorem m_2_86 : (Jvm.Cond.methodLink "DrawerGloves$Glove" (44 : Nat) ({ cls := "DrawerGloves$Glove", name := "goesOn", desc := "(I)Z" } : Jvm.MethodName)) ∈ gtbl := mg (mm_2 (List.mem_of_getElem? (i := 86) rfl)) rfl
set_option maxRecDepth 20000 in
theorem m_2_88 : (Jvm.Cond.instanceMethod ({ cls := "DrawerGloves$Glove", name := "goesOn", desc := "(I)Z" } : Jvm.MethodName)) ∈ gtbl := mg (mm_2 (List.mem_of_getElem? (i := 88) rfl)) rfl
set_option maxRecDepth 20000 in
theorem m_2_89 : (Jvm.Cond.code ({ cls := "DrawerGloves$Glove", name := "goesOn", desc := "(I)Z" } : Jvm.MethodName) prog_6_method_6_code (2 : Nat) (Option.some Jvm.ClassFile.FieldType.boolean)) ∈ gtbl := mg (mm_2 (List.mem_of_getElem? (i := 89) rfl)) rfl
set_option maxRecDepth 20000 in
theorem m_2_90 : (Jvm.Cond.methodLink "DrawerGloves$Glove" (40 : Nat) ({ cls := "DrawerGloves$Glove", name := "isOf", desc := "(I)Z" } : Jvm.MethodName)) ∈ gtbl := mg (mm_2 (List.mem_of_getElem? (i := 90) rfl)) rfl
set_option maxRecDepth 20000 in
theorem m_2_91 : (Jvm.Cond.instanceMethod ({ cls := "DrawerGloves$Glove", name := "isOf", desc := "(I)Z" } : Jvm.MethodName)) ∈ gtbl := mg (mm_2 (List.mem_of_getElem? (i := 91) rfl)) rfl
set_option maxRecDepth 20000 in
theorem m_2_92 : (Jvm.Cond.selects "DrawerGloves$Glove" ({ cls := "DrawerGloves$Glove", name := "isOf", desc := "(I)Z" } : Jvm.MethodName) ({ cls := "DrawerGloves$Glove", name := "isOf", desc := "(I)Z" } : Jvm.MethodName)) ∈ gtbl := mg (mm_2 (List.mem_of_getElem? (i := 92) rfl)) rfl
set_option maxRecDepth 20000 in
theorem m_2_93 : (Jvm.Cond.code ({ cls := "DrawerGloves$Glove", name := "isOf", desc := "(I)Z" } : Jvm.MethodName) prog_6_method_3_code (2 : Nat) (Option.some Jvm.ClassFile.FieldType.boolean)) ∈ gtbl := mg (mm_2 (List.mem_of_getElem? (i := 93) rfl)) rfl
set_option maxRecDepth 20000 in
theorem m_2_94 : (Jvm.Cond.methodLink "DrawerGloves$Glove" (51 : Nat) ({ cls := "DrawerGloves$Glove", name := "warmth", desc := "()I" } : Jvm.MethodName)) ∈ gtbl := mg (mm_2 (List.mem_of_getElem? (i := 94) rfl)) rfl
set_option maxRecDepth 20000 in
theorem m_2_95 : (Jvm.Cond.instanceMethod ({ cls := "DrawerGloves$Glove", name := "warmth", desc := "()I" } : Jvm.MethodName)) ∈ gtbl := mg (mm_2 (List.mem_of_getElem? (i := 95) rfl)) rfl
set_option maxRecDepth 20000 in
theorem m_2_96 : (Jvm.Cond.selects "DrawerGloves$Glove" ({ cls := "DrawerGloves$Glove", name := "warmth", desc := "()I" } : Jvm.MethodName) ({ cls := "DrawerGloves$Glove", name := "warmth", desc := "()I" } : Jvm.MethodName)) ∈ gtbl := mg (mm_2 (List.mem_of_getElem? (i := 96) rfl)) rfl
set_option maxRecDepth 20000 in
theorem m_2_97 : (Jvm.Cond.code ({ cls := "DrawerGloves$Glove", name := "warmth", desc := "()I" } : Jvm.MethodName) prog_6_method_5_code (2 : Nat) (Option.some Jvm.ClassFile.FieldType.int)) ∈ gtbl := mg (mm_2 (List.mem_of_getElem? (i := 97) rfl)) rfl
set_option maxRecDepth 20000 in
theorem m_2_98 : (Jvm.Cond.methodLink "DrawerGloves$Glove" (36 : Nat) ({ cls := "DrawerGloves$Glove", name := "bareWarmth", desc := "()I" } : Jvm.MethodName)) ∈ gtbl := mg (mm_2 (List.mem_of_getElem? (i := 98) rfl)) rfl
set_option maxRecDepth 20000 in
theorem m_2_99 : (Jvm.Cond.instanceMethod ({ cls := "DrawerGloves$Glove", name := "bareWarmth", desc := "()I" } : Jvm.MethodName)) ∈ gtbl := mg (mm_2 (List.mem_of_getElem? (i := 99) rfl)) rfl
set_option maxRecDepth 20000 in
theorem m_2_100 : (Jvm.Cond.selects "DrawerGloves$Glove" ({ cls := "DrawerGloves$Glove", name := "bareWarmth", desc := "()I" } : Jvm.MethodName) ({ cls := "DrawerGloves$Glove", name := "bareWarmth", desc := "()I" } : Jvm.MethodName)) ∈ gtbl := mg (mm_2 (List.mem_of_getElem? (i := 100) rfl)) rfl
set_option maxRecDepth 20000 in
theorem m_2_101 : (Jvm.Cond.code ({ cls := "DrawerGloves$Glove", name := "bareWarmth", desc := "()I" } : Jvm.MethodName) prog_6_method_4_code (1 : Nat) (Option.some Jvm.ClassFile.FieldType.int)) ∈ gtbl := mg (mm_2 (List.mem_of_getElem? (i := 101) rfl)) rfl
set_option maxRecDepth 20000 in
theorem m_2_102 : (Jvm.Cond.methodLink "DrawerGloves$Glove" (30 : Nat) ({ cls := "java/lang/Math", name := "max", desc := "(II)I" } : Jvm.MethodName)) ∈ gtbl := mg (mm_2 (List.mem_of_getElem? (i := 102) rfl)) rfl
set_option maxRecDepth 20000 in
theorem m_2_103 : (Jvm.Cond.methodLink "DrawerGloves$Glove" (54 : Nat) ({ cls := "java/lang/Math", name := "abs", desc := "(I)I" } : Jvm.MethodName)) ∈ gtbl := mg (mm_2 (List.mem_of_getElem? (i := 103) rfl)) rfl
set_option maxRecDepth 20000 in
theorem m_2_104 : (Jvm.Cond.static ({ cls := "java/lang/Math", name := "abs", desc := "(I)I" } : Jvm.MethodName)) ∈ gtbl := mg (mm_2 (List.mem_of_getElem? (i := 104) rfl)) rfl
set_option maxRecDepth 20000 in
theorem m_2_105 : (Jvm.Cond.code ({ cls := "java/lang/Math", name := "abs", desc := "(I)I" } : Jvm.MethodName) prog_15_method_59_code (1 : Nat) (Option.some Jvm.ClassFile.FieldType.int)) ∈ gtbl := mg (mm_2 (List.mem_of_getElem? (i := 105) rfl)) rfl
set_option maxRecDepth 20000 in
theorem m_2_106 : (Jvm.Cond.methodLink "DrawerGloves" (201 : Nat) ({ cls := "DrawerGloves$Drawer", name := "isInside", desc := "(I)Z" } : Jvm.MethodName)) ∈ gtbl := mg (mm_2 (List.mem_of_getElem? (i := 106) rfl)) rfl
set_option maxRecDepth 20000 in
theorem m_2_107 : (Jvm.Cond.instanceMethod ({ cls := "DrawerGloves$Drawer", name := "isInside", desc := "(I)Z" } : Jvm.MethodName)) ∈ gtbl := mg (mm_2 (List.mem_of_getElem? (i := 107) rfl)) rfl
set_option maxRecDepth 20000 in
theorem m_2_108 : (Jvm.Cond.selects "DrawerGloves$Drawer" ({ cls := "DrawerGloves$Drawer", name := "isInside", desc := "(I)Z" } : Jvm.MethodName) ({ cls := "DrawerGloves$Drawer", name := "isInside", desc := "(I)Z" } : Jvm.MethodName)) ∈ gtbl := mg (mm_2 (List.mem_of_getElem? (i := 108) rfl)) rfl
set_option maxRecDepth 20000 in
theorem m_2_109 : (Jvm.Cond.code ({ cls := "DrawerGloves$Drawer", name := "isInside", desc := "(I)Z" } : Jvm.MethodName) prog_5_method_5_code (2 : Nat) (Option.some Jvm.ClassFile.FieldType.boolean)) ∈ gtbl := mg (mm_2 (List.mem_of_getElem? (i := 109) rfl)) rfl
set_option maxRecDepth 20000 in
theorem m_2_110 : (Jvm.Cond.methodLink "DrawerGloves$Drawer" (61 : Nat) ({ cls := "DrawerGloves$Drawer", name := "has", desc := "(I)Z" } : Jvm.MethodName)) ∈ gtbl := mg (mm_2 (List.mem_of_getElem? (i := 110) rfl)) rfl
set_option maxRecDepth 20000 in
theorem m_2_111 : (Jvm.Cond.methodLink "DrawerGloves" (208 : Nat) ({ cls := "DrawerGloves$Deeds", name := "roomLeft", desc := "()I" } : Jvm.MethodName)) ∈ gtbl := mg (mm_2 (List.mem_of_getElem? (i := 111) rfl)) rfl
set_option maxRecDepth 20000 in
theorem m_2_112 : (Jvm.Cond.instanceMethod ({ cls := "DrawerGloves$Deeds", name := "roomLeft", desc := "()I" } : Jvm.MethodName)) ∈ gtbl := mg (mm_2 (List.mem_of_getElem? (i := 112) rfl)) rfl
set_option maxRecDepth 20000 in
theorem m_2_113 : (Jvm.Cond.selects "DrawerGloves$Deeds" ({ cls := "DrawerGloves$Deeds", name := "roomLeft", desc := "()I" } : Jvm.MethodName) ({ cls := "DrawerGloves$Deeds", name := "roomLeft", desc := "()I" } : Jvm.MethodName)) ∈ gtbl := mg (mm_2 (List.mem_of_getElem? (i := 113) rfl)) rfl
set_option maxRecDepth 20000 in
theorem m_2_114 : (Jvm.Cond.code ({ cls := "DrawerGloves$Deeds", name := "roomLeft", desc := "()I" } : Jvm.MethodName) prog_4_method_2_code (1 : Nat) (Option.some Jvm.ClassFile.FieldType.int)) ∈ gtbl := mg (mm_2 (List.mem_of_getElem? (i := 114) rfl)) rfl
set_option maxRecDepth 20000 in
theorem m_2_115 : (Jvm.Cond.methodLink "DrawerGloves" (211 : Nat) ({ cls := "DrawerGloves$Drawer", name := "act", desc := "(III)V" } : Jvm.MethodName)) ∈ gtbl := mg (mm_2 (List.mem_of_getElem? (i := 115) rfl)) rfl
set_option maxRecDepth 20000 in
theorem m_2_116 : (Jvm.Cond.instanceMethod ({ cls := "DrawerGloves$Drawer", name := "act", desc := "(III)V" } : Jvm.MethodName)) ∈ gtbl := mg (mm_2 (List.mem_of_getElem? (i := 116) rfl)) rfl
set_option maxRecDepth 20000 in
theorem m_2_117 : (Jvm.Cond.selects "DrawerGloves$Drawer" ({ cls := "DrawerGloves$Drawer", name := "act", desc := "(III)V" } : Jvm.MethodName) ({ cls := "DrawerGloves$Drawer", name := "act", desc := "(III)V" } : Jvm.MethodName)) ∈ gtbl := mg (mm_2 (List.mem_of_getElem? (i := 117) rfl)) rfl
set_option maxRecDepth 20000 in
theorem m_2_118 : (Jvm.Cond.code ({ cls := "DrawerGloves$Drawer", name := "act", desc := "(III)V" } : Jvm.MethodName) prog_5_method_14_code (4 : Nat) (Option.none : Option Jvm.ClassFile.FieldType)) ∈ gtbl := mg (mm_2 (List.mem_of_getElem? (i := 118) rfl)) rfl
set_option maxRecDepth 20000 in
theorem m_2_119 : (Jvm.Cond.methodLink "DrawerGloves$Drawer" (94 : Nat) ({ cls := "DrawerGloves$Deeds", name := "add", desc := "(III)V" } : Jvm.MethodName)) ∈ gtbl := mg (mm_2 (List.mem_of_getElem? (i := 119) rfl)) rfl
set_option maxRecDepth 20000 in
theorem m_2_120 : (Jvm.Cond.instanceMethod ({ cls := "DrawerGloves$Deeds", name := "add", desc := "(III)V" } : Jvm.MethodName)) ∈ gtbl := mg (mm_2 (List.mem_of_getElem? (i := 120) rfl)) rfl
set_option maxRecDepth 20000 in
theorem m_2_121 : (Jvm.Cond.selects "DrawerGloves$Deeds" ({ cls := "DrawerGloves$Deeds", name := "add", desc := "(III)V" } : Jvm.MethodName) ({ cls := "DrawerGloves$Deeds", name := "add", desc := "(III)V" } : Jvm.MethodName)) ∈ gtbl := mg (mm_2 (List.mem_of_getElem? (i := 121) rfl)) rfl
set_option maxRecDepth 20000 in
theorem m_2_122 : (Jvm.Cond.code ({ cls := "DrawerGloves$Deeds", name := "add", desc := "(III)V" } : Jvm.MethodName) prog_4_method_3_code (4 : Nat) (Option.none : Option Jvm.ClassFile.FieldType)) ∈ gtbl := mg (mm_2 (List.mem_of_getElem? (i := 122) rfl)) rfl
set_option maxRecDepth 20000 in
theorem m_2_123 : (Jvm.Cond.methodLink "DrawerGloves$Drawer" (98 : Nat) ({ cls := "DrawerGloves$Drawer", name := "carryOut", desc := "(III)V" } : Jvm.MethodName)) ∈ gtbl := mg (mm_2 (List.mem_of_getElem? (i := 123) rfl)) rfl
set_option maxRecDepth 20000 in
theorem m_2_125 : (Jvm.Cond.instanceMethod ({ cls := "DrawerGloves$Drawer", name := "carryOut", desc := "(III)V" } : Jvm.MethodName)) ∈ gtbl := mg (mm_2 (List.mem_of_getElem? (i := 125) rfl)) rfl
set_option maxRecDepth 20000 in
theorem m_2_126 : (Jvm.Cond.code ({ cls := "DrawerGloves$Drawer", name := "carryOut", desc := "(III)V" } : Jvm.MethodName) prog_5_method_18_code (4 : Nat) (Option.none : Option Jvm.ClassFile.FieldType)) ∈ gtbl := mg (mm_2 (List.mem_of_getElem? (i := 126) rfl)) rfl
set_option maxRecDepth 20000 in
theorem m_2_127 : (Jvm.Cond.methodLink "DrawerGlovesLaw" (57 : Nat) ({ cls := "DrawerGloves", name := "lose", desc := "(I)I" } : Jvm.MethodName)) ∈ gtbl := mg (mm_2 (List.mem_of_getElem? (i := 127) rfl)) rfl
set_option maxRecDepth 20000 in
theorem m_2_128 : (Jvm.Cond.instanceMethod ({ cls := "DrawerGloves", name := "lose", desc := "(I)I" } : Jvm.MethodName)) ∈ gtbl := mg (mm_2 (List.mem_of_getElem? (i := 128) rfl)) rfl
set_option maxRecDepth 20000 in
theorem m_2_129 : (Jvm.Cond.selects "DrawerGloves" ({ cls := "DrawerGloves", name := "lose", desc := "(I)I" } : Jvm.MethodName) ({ cls := "DrawerGloves", name := "lose", desc := "(I)I" } : Jvm.MethodName)) ∈ gtbl := mg (mm_2 (List.mem_of_getElem? (i := 129) rfl)) rfl
set_option maxRecDepth 20000 in
theorem m_2_130 : (Jvm.Cond.code ({ cls := "DrawerGloves", name := "lose", desc := "(I)I" } : Jvm.MethodName) prog_1_method_16_code (2 : Nat) (Option.some Jvm.ClassFile.FieldType.int)) ∈ gtbl := mg (mm_2 (List.mem_of_getElem? (i := 130) rfl)) rfl
set_option maxRecDepth 20000 in
theorem m_2_131 : (Jvm.Cond.methodLink "DrawerGloves" (214 : Nat) ({ cls := "DrawerGloves$Drawer", name := "canBeLost", desc := "(I)Z" } : Jvm.MethodName)) ∈ gtbl := mg (mm_2 (List.mem_of_getElem? (i := 131) rfl)) rfl
set_option maxRecDepth 20000 in
theorem m_2_132 : (Jvm.Cond.instanceMethod ({ cls := "DrawerGloves$Drawer", name := "canBeLost", desc := "(I)Z" } : Jvm.MethodName)) ∈ gtbl := mg (mm_2 (List.mem_of_getElem? (i := 132) rfl)) rfl
set_option maxRecDepth 20000 in
theorem m_2_133 : (Jvm.Cond.selects "DrawerGloves$Drawer" ({ cls := "DrawerGloves$Drawer", name := "canBeLost", desc := "(I)Z" } : Jvm.MethodName) ({ cls := "DrawerGloves$Drawer", name := "canBeLost", desc := "(I)Z" } : Jvm.MethodName)) ∈ gtbl := mg (mm_2 (List.mem_of_getElem? (i := 133) rfl)) rfl
set_option maxRecDepth 20000 in
theorem m_2_134 : (Jvm.Cond.code ({ cls := "DrawerGloves$Drawer", name := "canBeLost", desc := "(I)Z" } : Jvm.MethodName) prog_5_method_6_code (2 : Nat) (Option.some Jvm.ClassFile.FieldType.boolean)) ∈ gtbl := mg (mm_2 (List.mem_of_getElem? (i := 134) rfl)) rfl
set_option maxRecDepth 20000 in
theorem m_2_135 : (Jvm.Cond.methodLink "DrawerGloves$Drawer" (68 : Nat) ({ cls := "DrawerGloves$Drawer", name := "isInside", desc := "(I)Z" } : Jvm.MethodName)) ∈ gtbl := mg (mm_2 (List.mem_of_getElem? (i := 135) rfl)) rfl
set_option maxRecDepth 20000 in
theorem m_2_136 : (Jvm.Cond.methodLink "DrawerGloves" (217 : Nat) ({ cls := "DrawerGloves$Drawer", name := "howManyInside", desc := "()I" } : Jvm.MethodName)) ∈ gtbl := mg (mm_2 (List.mem_of_getElem? (i := 136) rfl)) rfl
set_option maxRecDepth 20000 in
theorem m_2_137 : (Jvm.Cond.instanceMethod ({ cls := "DrawerGloves$Drawer", name := "howManyInside", desc := "()I" } : Jvm.MethodName)) ∈ gtbl := mg (mm_2 (List.mem_of_getElem? (i := 137) rfl)) rfl
set_option maxRecDepth 20000 in
theorem m_2_138 : (Jvm.Cond.selects "DrawerGloves$Drawer" ({ cls := "DrawerGloves$Drawer", name := "howManyInside", desc := "()I" } : Jvm.MethodName) ({ cls := "DrawerGloves$Drawer", name := "howManyInside", desc := "()I" } : Jvm.MethodName)) ∈ gtbl := mg (mm_2 (List.mem_of_getElem? (i := 138) rfl)) rfl
set_option maxRecDepth 20000 in
theorem m_2_139 : (Jvm.Cond.code ({ cls := "DrawerGloves$Drawer", name := "howManyInside", desc := "()I" } : Jvm.MethodName) prog_5_method_8_code (1 : Nat) (Option.some Jvm.ClassFile.FieldType.int)) ∈ gtbl := mg (mm_2 (List.mem_of_getElem? (i := 139) rfl)) rfl
set_option maxRecDepth 20000 in
theorem m_2_140 : (Jvm.Cond.methodLink "DrawerGloves$Drawer" (71 : Nat) ({ cls := "DrawerGloves$Drawer", name := "setOf", desc := "(I)I" } : Jvm.MethodName)) ∈ gtbl := mg (mm_2 (List.mem_of_getElem? (i := 140) rfl)) rfl
set_option maxRecDepth 20000 in
theorem m_2_141 : (Jvm.Cond.instanceMethod ({ cls := "DrawerGloves$Drawer", name := "setOf", desc := "(I)I" } : Jvm.MethodName)) ∈ gtbl := mg (mm_2 (List.mem_of_getElem? (i := 141) rfl)) rfl
set_option maxRecDepth 20000 in
theorem m_2_142 : (Jvm.Cond.selects "DrawerGloves$Drawer" ({ cls := "DrawerGloves$Drawer", name := "setOf", desc := "(I)I" } : Jvm.MethodName) ({ cls := "DrawerGloves$Drawer", name := "setOf", desc := "(I)I" } : Jvm.MethodName)) ∈ gtbl := mg (mm_2 (List.mem_of_getElem? (i := 142) rfl)) rfl
set_option maxRecDepth 20000 in
theorem m_2_143 : (Jvm.Cond.code ({ cls := "DrawerGloves$Drawer", name := "setOf", desc := "(I)I" } : Jvm.MethodName) prog_5_method_7_code (4 : Nat) (Option.some Jvm.ClassFile.FieldType.int)) ∈ gtbl := mg (mm_2 (List.mem_of_getElem? (i := 143) rfl)) rfl
set_option maxRecDepth 20000 in
theorem m_2_144 : (Jvm.Cond.methodLink "DrawerGloves$Drawer" (75 : Nat) ({ cls := "java/lang/Integer", name := "bitCount", desc := "(I)I" } : Jvm.MethodName)) ∈ gtbl := mg (mm_2 (List.mem_of_getElem? (i := 144) rfl)) rfl
set_option maxRecDepth 20000 in
theorem m_2_145 : (Jvm.Cond.static ({ cls := "java/lang/Integer", name := "bitCount", desc := "(I)I" } : Jvm.MethodName)) ∈ gtbl := mg (mm_2 (List.mem_of_getElem? (i := 145) rfl)) rfl
set_option maxRecDepth 20000 in
theorem m_2_146 : (Jvm.Cond.code ({ cls := "java/lang/Integer", name := "bitCount", desc := "(I)I" } : Jvm.MethodName) prog_14_method_49_code (1 : Nat) (Option.some Jvm.ClassFile.FieldType.int)) ∈ gtbl := mg (mm_2 (List.mem_of_getElem? (i := 146) rfl)) rfl
set_option maxRecDepth 20000 in
theorem m_2_147 : (Jvm.Cond.constant "java/lang/Integer" (265 : Nat) (1431655765 : Int32)) ∈ gtbl := mg (mm_2 (List.mem_of_getElem? (i := 147) rfl)) rfl
set_option maxRecDepth 20000 in
theorem m_2_148 : (Jvm.Cond.constant "java/lang/Integer" (266 : Nat) (858993459 : Int32)) ∈ gtbl := mg (mm_2 (List.mem_of_getElem? (i := 148) rfl)) rfl
set_option maxRecDepth 20000 in
theorem m_2_149 : (Jvm.Cond.constant "java/lang/Integer" (267 : Nat) (252645135 : Int32)) ∈ gtbl := mg (mm_2 (List.mem_of_getElem? (i := 149) rfl)) rfl
set_option maxRecDepth 20000 in
theorem m_2_150 : (Jvm.Cond.methodLink "DrawerGlovesLaw" (63 : Nat) ({ cls := "DrawerGloves", name := "out", desc := "(I)I" } : Jvm.MethodName)) ∈ gtbl := mg (mm_2 (List.mem_of_getElem? (i := 150) rfl)) rfl
set_option maxRecDepth 20000 in
theorem m_2_151 : (Jvm.Cond.instanceMethod ({ cls := "DrawerGloves", name := "out", desc := "(I)I" } : Jvm.MethodName)) ∈ gtbl := mg (mm_2 (List.mem_of_getElem? (i := 151) rfl)) rfl
set_option maxRecDepth 20000 in
theorem m_2_152 : (Jvm.Cond.selects "DrawerGloves" ({ cls := "DrawerGloves", name := "out", desc := "(I)I" } : Jvm.MethodName) ({ cls := "DrawerGloves", name := "out", desc := "(I)I" } : Jvm.MethodName)) ∈ gtbl := mg (mm_2 (List.mem_of_getElem? (i := 152) rfl)) rfl
set_option maxRecDepth 20000 in
theorem m_2_153 : (Jvm.Cond.code ({ cls := "DrawerGloves", name := "out", desc := "(I)I" } : Jvm.MethodName) prog_1_method_18_code (2 : Nat) (Option.some Jvm.ClassFile.FieldType.int)) ∈ gtbl := mg (mm_2 (List.mem_of_getElem? (i := 153) rfl)) rfl
set_option maxRecDepth 20000 in
theorem m_2_154 : (Jvm.Cond.methodLink "DrawerGlovesLaw" (66 : Nat) ({ cls := "DrawerGloves", name := "undo", desc := "(I)I" } : Jvm.MethodName)) ∈ gtbl := mg (mm_2 (List.mem_of_getElem? (i := 154) rfl)) rfl
set_option maxRecDepth 20000 in
theorem m_2_155 : (Jvm.Cond.instanceMethod ({ cls := "DrawerGloves", name := "undo", desc := "(I)I" } : Jvm.MethodName)) ∈ gtbl := mg (mm_2 (List.mem_of_getElem? (i := 155) rfl)) rfl
set_option maxRecDepth 20000 in
theorem m_2_156 : (Jvm.Cond.selects "DrawerGloves" ({ cls := "DrawerGloves", name := "undo", desc := "(I)I" } : Jvm.MethodName) ({ cls := "DrawerGloves", name := "undo", desc := "(I)I" } : Jvm.MethodName)) ∈ gtbl := mg (mm_2 (List.mem_of_getElem? (i := 156) rfl)) rfl
set_option maxRecDepth 20000 in
theorem m_2_157 : (Jvm.Cond.code ({ cls := "DrawerGloves", name := "undo", desc := "(I)I" } : Jvm.MethodName) prog_1_method_19_code (3 : Nat) (Option.some Jvm.ClassFile.FieldType.int)) ∈ gtbl := mg (mm_2 (List.mem_of_getElem? (i := 157) rfl)) rfl
set_option maxRecDepth 20000 in
theorem m_2_158 : (Jvm.Cond.methodLink "DrawerGloves" (227 : Nat) ({ cls := "DrawerGloves$Drawer", name := "replay", desc := "()V" } : Jvm.MethodName)) ∈ gtbl := mg (mm_2 (List.mem_of_getElem? (i := 158) rfl)) rfl
set_option maxRecDepth 20000 in
theorem m_2_159 : (Jvm.Cond.instanceMethod ({ cls := "DrawerGloves$Drawer", name := "replay", desc := "()V" } : Jvm.MethodName)) ∈ gtbl := mg (mm_2 (List.mem_of_getElem? (i := 159) rfl)) rfl
set_option maxRecDepth 20000 in
theorem m_2_160 : (Jvm.Cond.selects "DrawerGloves$Drawer" ({ cls := "DrawerGloves$Drawer", name := "replay", desc := "()V" } : Jvm.MethodName) ({ cls := "DrawerGloves$Drawer", name := "replay", desc := "()V" } : Jvm.MethodName)) ∈ gtbl := mg (mm_2 (List.mem_of_getElem? (i := 160) rfl)) rfl
set_option maxRecDepth 20000 in
theorem m_2_161 : (Jvm.Cond.code ({ cls := "DrawerGloves$Drawer", name := "replay", desc := "()V" } : Jvm.MethodName) prog_5_method_17_code (3 : Nat) (Option.none : Option Jvm.ClassFile.FieldType)) ∈ gtbl := mg (mm_2 (List.mem_of_getElem? (i := 161) rfl)) rfl
set_option maxRecDepth 20000 in
theorem m_2_162 : (Jvm.Cond.methodLink "DrawerGlovesLaw" (69 : Nat) ({ cls := "DrawerGloves", name := "keep", desc := "(I)I" } : Jvm.MethodName)) ∈ gtbl := mg (mm_2 (List.mem_of_getElem? (i := 162) rfl)) rfl
set_option maxRecDepth 20000 in
theorem m_2_163 : (Jvm.Cond.instanceMethod ({ cls := "DrawerGloves", name := "keep", desc := "(I)I" } : Jvm.MethodName)) ∈ gtbl := mg (mm_2 (List.mem_of_getElem? (i := 163) rfl)) rfl
set_option maxRecDepth 20000 in
theorem m_2_164 : (Jvm.Cond.selects "DrawerGloves" ({ cls := "DrawerGloves", name := "keep", desc := "(I)I" } : Jvm.MethodName) ({ cls := "DrawerGloves", name := "keep", desc := "(I)I" } : Jvm.MethodName)) ∈ gtbl := mg (mm_2 (List.mem_of_getElem? (i := 164) rfl)) rfl
set_option maxRecDepth 20000 in
theorem m_2_165 : (Jvm.Cond.code ({ cls := "DrawerGloves", name := "keep", desc := "(I)I" } : Jvm.MethodName) prog_1_method_20_code (2 : Nat) (Option.some Jvm.ClassFile.FieldType.int)) ∈ gtbl := mg (mm_2 (List.mem_of_getElem? (i := 165) rfl)) rfl
set_option maxRecDepth 20000 in
theorem m_2_166 : (Jvm.Cond.methodLink "DrawerGloves" (230 : Nat) ({ cls := "DrawerGloves$Deeds", name := "becomeLike", desc := "(LDrawerGloves$Deeds;)V" } : Jvm.MethodName)) ∈ gtbl := mg (mm_2 (List.mem_of_getElem? (i := 166) rfl)) rfl
set_option maxRecDepth 20000 in
theorem m_2_167 : (Jvm.Cond.instanceMethod ({ cls := "DrawerGloves$Deeds", name := "becomeLike", desc := "(LDrawerGloves$Deeds;)V" } : Jvm.MethodName)) ∈ gtbl := mg (mm_2 (List.mem_of_getElem? (i := 167) rfl)) rfl
set_option maxRecDepth 20000 in
theorem m_2_168 : (Jvm.Cond.selects "DrawerGloves$Deeds" ({ cls := "DrawerGloves$Deeds", name := "becomeLike", desc := "(LDrawerGloves$Deeds;)V" } : Jvm.MethodName) ({ cls := "DrawerGloves$Deeds", name := "becomeLike", desc := "(LDrawerGloves$Deeds;)V" } : Jvm.MethodName)) ∈ gtbl := mg (mm_2 (List.mem_of_getElem? (i := 168) rfl)) rfl
set_option maxRecDepth 20000 in
theorem m_2_169 : (Jvm.Cond.code ({ cls := "DrawerGloves$Deeds", name := "becomeLike", desc := "(LDrawerGloves$Deeds;)V" } : Jvm.MethodName) prog_4_method_4_code (3 : Nat) (Option.none : Option Jvm.ClassFile.FieldType)) ∈ gtbl := mg (mm_2 (List.mem_of_getElem? (i := 169) rfl)) rfl
set_option maxRecDepth 20000 in
theorem m_2_170 : (Jvm.Cond.methodLink "DrawerGlovesLaw" (72 : Nat) ({ cls := "DrawerGloves", name := "on", desc := "(I)I" } : Jvm.MethodName)) ∈ gtbl := mg (mm_2 (List.mem_of_getElem? (i := 170) rfl)) rfl
set_option maxRecDepth 20000 in
theorem m_2_171 : (Jvm.Cond.instanceMethod ({ cls := "DrawerGloves", name := "on", desc := "(I)I" } : Jvm.MethodName)) ∈ gtbl := mg (mm_2 (List.mem_of_getElem? (i := 171) rfl)) rfl
set_option maxRecDepth 20000 in
theorem m_2_172 : (Jvm.Cond.selects "DrawerGloves" ({ cls := "DrawerGloves", name := "on", desc := "(I)I" } : Jvm.MethodName) ({ cls := "DrawerGloves", name := "on", desc := "(I)I" } : Jvm.MethodName)) ∈ gtbl := mg (mm_2 (List.mem_of_getElem? (i := 172) rfl)) rfl
set_option maxRecDepth 20000 in
theorem m_2_173 : (Jvm.Cond.code ({ cls := "DrawerGloves", name := "on", desc := "(I)I" } : Jvm.MethodName) prog_1_method_21_code (2 : Nat) (Option.some Jvm.ClassFile.FieldType.int)) ∈ gtbl := mg (mm_2 (List.mem_of_getElem? (i := 173) rfl)) rfl
set_option maxRecDepth 20000 in
theorem m_2_174 : (Jvm.Cond.methodLink "DrawerGloves" (95 : Nat) ({ cls := "DrawerGloves", name := "finds", desc := "(I)I" } : Jvm.MethodName)) ∈ gtbl := mg (mm_2 (List.mem_of_getElem? (i := 174) rfl)) rfl
set_option maxRecDepth 20000 in
theorem m_2_176 : (Jvm.Cond.instanceMethod ({ cls := "DrawerGloves", name := "finds", desc := "(I)I" } : Jvm.MethodName)) ∈ gtbl := mg (mm_2 (List.mem_of_getElem? (i := 176) rfl)) rfl
set_option maxRecDepth 20000 in
theorem m_2_177 : (Jvm.Cond.code ({ cls := "DrawerGloves", name := "finds", desc := "(I)I" } : Jvm.MethodName) prog_1_method_44_code (2 : Nat) (Option.some Jvm.ClassFile.FieldType.int)) ∈ gtbl := mg (mm_2 (List.mem_of_getElem? (i := 177) rfl)) rfl
set_option maxRecDepth 20000 in
theorem m_2_178 : (Jvm.Cond.methodLink "DrawerGlovesLaw" (132 : Nat) ({ cls := "DrawerGloves", name := "room", desc := "()I" } : Jvm.MethodName)) ∈ gtbl := mg (mm_2 (List.mem_of_getElem? (i := 178) rfl)) rfl
set_option maxRecDepth 20000 in
theorem m_2_179 : (Jvm.Cond.instanceMethod ({ cls := "DrawerGloves", name := "room", desc := "()I" } : Jvm.MethodName)) ∈ gtbl := mg (mm_2 (List.mem_of_getElem? (i := 179) rfl)) rfl
set_option maxRecDepth 20000 in
theorem m_2_180 : (Jvm.Cond.selects "DrawerGloves" ({ cls := "DrawerGloves", name := "room", desc := "()I" } : Jvm.MethodName) ({ cls := "DrawerGloves", name := "room", desc := "()I" } : Jvm.MethodName)) ∈ gtbl := mg (mm_2 (List.mem_of_getElem? (i := 180) rfl)) rfl
set_option maxRecDepth 20000 in
theorem m_2_181 : (Jvm.Cond.code ({ cls := "DrawerGloves", name := "room", desc := "()I" } : Jvm.MethodName) prog_1_method_27_code (2 : Nat) (Option.some Jvm.ClassFile.FieldType.int)) ∈ gtbl := mg (mm_2 (List.mem_of_getElem? (i := 181) rfl)) rfl
set_option maxRecDepth 20000 in
theorem m_2_182 : (Jvm.Cond.methodLink "DrawerGloves" (237 : Nat) ({ cls := "DrawerGloves$Makings", name := "weigh", desc := "(LDrawerGloves$Drawer;)V" } : Jvm.MethodName)) ∈ gtbl := mg (mm_2 (List.mem_of_getElem? (i := 182) rfl)) rfl
set_option maxRecDepth 20000 in
theorem m_2_183 : (Jvm.Cond.instanceMethod ({ cls := "DrawerGloves$Makings", name := "weigh", desc := "(LDrawerGloves$Drawer;)V" } : Jvm.MethodName)) ∈ gtbl := mg (mm_2 (List.mem_of_getElem? (i := 183) rfl)) rfl
set_option maxRecDepth 20000 in
theorem m_2_184 : (Jvm.Cond.selects "DrawerGloves$Makings" ({ cls := "DrawerGloves$Makings", name := "weigh", desc := "(LDrawerGloves$Drawer;)V" } : Jvm.MethodName) ({ cls := "DrawerGloves$Makings", name := "weigh", desc := "(LDrawerGloves$Drawer;)V" } : Jvm.MethodName)) ∈ gtbl := mg (mm_2 (List.mem_of_getElem? (i := 184) rfl)) rfl
set_option maxRecDepth 20000 in
theorem m_2_185 : (Jvm.Cond.code ({ cls := "DrawerGloves$Makings", name := "weigh", desc := "(LDrawerGloves$Drawer;)V" } : Jvm.MethodName) prog_8_method_2_code (4 : Nat) (Option.none : Option Jvm.ClassFile.FieldType)) ∈ gtbl := mg (mm_2 (List.mem_of_getElem? (i := 185) rfl)) rfl
set_option maxRecDepth 20000 in
theorem m_2_186 : (Jvm.Cond.methodLink "DrawerGloves$Makings" (34 : Nat) ({ cls := "DrawerGloves$Glove", name := "goodWith", desc := "(LDrawerGloves$Glove;)I" } : Jvm.MethodName)) ∈ gtbl := mg (mm_2 (List.mem_of_getElem? (i := 186) rfl)) rfl
set_option maxRecDepth 20000 in
theorem m_2_187 : (Jvm.Cond.methodLink "DrawerGloves$Makings" (40 : Nat) ({ cls := "DrawerGloves$Makings", name := "weighWith", desc := "(II)V" } : Jvm.MethodName)) ∈ gtbl := mg (mm_2 (List.mem_of_getElem? (i := 187) rfl)) rfl
set_option maxRecDepth 20000 in
theorem m_2_189 : (Jvm.Cond.instanceMethod ({ cls := "DrawerGloves$Makings", name := "weighWith", desc := "(II)V" } : Jvm.MethodName)) ∈ gtbl := mg (mm_2 (List.mem_of_getElem? (i := 189) rfl)) rfl
set_option maxRecDepth 20000 in
theorem m_2_190 : (Jvm.Cond.code ({ cls := "DrawerGloves$Makings", name := "weighWith", desc := "(II)V" } : Jvm.MethodName) prog_8_method_3_code (7 : Nat) (Option.none : Option Jvm.ClassFile.FieldType)) ∈ gtbl := mg (mm_2 (List.mem_of_getElem? (i := 190) rfl)) rfl
set_option maxRecDepth 20000 in
theorem m_2_191 : (Jvm.Cond.methodLink "DrawerGloves$Makings" (44 : Nat) ({ cls := "java/lang/Math", name := "max", desc := "(II)I" } : Jvm.MethodName)) ∈ gtbl := mg (mm_2 (List.mem_of_getElem? (i := 191) rfl)) rfl
set_option maxRecDepth 20000 in
theorem m_2_192 : (Jvm.Cond.methodLink "DrawerGloves" (261 : Nat) ({ cls := "DrawerGloves$Makings", name := "safestSet", desc := "(LDrawerGloves$Drawer;)I" } : Jvm.MethodName)) ∈ gtbl := mg (mm_2 (List.mem_of_getElem? (i := 192) rfl)) rfl
set_option maxRecDepth 20000 in
theorem m_2_193 : (Jvm.Cond.instanceMethod ({ cls := "DrawerGloves$Makings", name := "safestSet", desc := "(LDrawerGloves$Drawer;)I" } : Jvm.MethodName)) ∈ gtbl := mg (mm_2 (List.mem_of_getElem? (i := 193) rfl)) rfl
set_option maxRecDepth 20000 in
theorem m_2_194 : (Jvm.Cond.selects "DrawerGloves$Makings" ({ cls := "DrawerGloves$Makings", name := "safestSet", desc := "(LDrawerGloves$Drawer;)I" } : Jvm.MethodName) ({ cls := "DrawerGloves$Makings", name := "safestSet", desc := "(LDrawerGloves$Drawer;)I" } : Jvm.MethodName)) ∈ gtbl := mg (mm_2 (List.mem_of_getElem? (i := 194) rfl)) rfl
set_option maxRecDepth 20000 in
theorem m_2_195 : (Jvm.Cond.code ({ cls := "DrawerGloves$Makings", name := "safestSet", desc := "(LDrawerGloves$Drawer;)I" } : Jvm.MethodName) prog_8_method_6_code (6 : Nat) (Option.some Jvm.ClassFile.FieldType.int)) ∈ gtbl := mg (mm_2 (List.mem_of_getElem? (i := 195) rfl)) rfl
set_option maxRecDepth 20000 in
theorem m_2_196 : (Jvm.Cond.methodLink "DrawerGloves$Makings" (59 : Nat) ({ cls := "DrawerGloves$Drawer", name := "setOf", desc := "(I)I" } : Jvm.MethodName)) ∈ gtbl := mg (mm_2 (List.mem_of_getElem? (i := 196) rfl)) rfl
set_option maxRecDepth 20000 in
theorem m_2_197 : (Jvm.Cond.methodLink "DrawerGloves$Makings" (67 : Nat) ({ cls := "java/lang/Integer", name := "bitCount", desc := "(I)I" } : Jvm.MethodName)) ∈ gtbl := mg (mm_2 (List.mem_of_getElem? (i := 197) rfl)) rfl
set_option maxRecDepth 20000 in
theorem m_2_198 : (Jvm.Cond.methodLink "DrawerGloves$Makings" (75 : Nat) ({ cls := "DrawerGloves$Makings", name := "isSafer", desc := "(LDrawerGloves$Drawer;II)Z" } : Jvm.MethodName)) ∈ gtbl := mg (mm_2 (List.mem_of_getElem? (i := 198) rfl)) rfl
set_option maxRecDepth 20000 in
theorem m_2_200 : (Jvm.Cond.instanceMethod ({ cls := "DrawerGloves$Makings", name := "isSafer", desc := "(LDrawerGloves$Drawer;II)Z" } : Jvm.MethodName)) ∈ gtbl := mg (mm_2 (List.mem_of_getElem? (i := 200) rfl)) rfl
set_option maxRecDepth 20000 in
theorem m_2_201 : (Jvm.Cond.code ({ cls := "DrawerGloves$Makings", name := "isSafer", desc := "(LDrawerGloves$Drawer;II)Z" } : Jvm.MethodName) prog_8_method_7_code (6 : Nat) (Option.some Jvm.ClassFile.FieldType.boolean)) ∈ gtbl := mg (mm_2 (List.mem_of_getElem? (i := 201) rfl)) rfl
set_option maxRecDepth 20000 in
theorem m_2_202 : (Jvm.Cond.methodLink "DrawerGloves$Makings" (79 : Nat) ({ cls := "DrawerGloves$Makings", name := "afterWorstLoss", desc := "(LDrawerGloves$Drawer;I)I" } : Jvm.MethodName)) ∈ gtbl := mg (mm_2 (List.mem_of_getElem? (i := 202) rfl)) rfl
set_option maxRecDepth 20000 in
theorem m_2_203 : (Jvm.Cond.instanceMethod ({ cls := "DrawerGloves$Makings", name := "afterWorstLoss", desc := "(LDrawerGloves$Drawer;I)I" } : Jvm.MethodName)) ∈ gtbl := mg (mm_2 (List.mem_of_getElem? (i := 203) rfl)) rfl
set_option maxRecDepth 20000 in
theorem m_2_204 : (Jvm.Cond.selects "DrawerGloves$Makings" ({ cls := "DrawerGloves$Makings", name := "afterWorstLoss", desc := "(LDrawerGloves$Drawer;I)I" } : Jvm.MethodName) ({ cls := "DrawerGloves$Makings", name := "afterWorstLoss", desc := "(LDrawerGloves$Drawer;I)I" } : Jvm.MethodName)) ∈ gtbl := mg (mm_2 (List.mem_of_getElem? (i := 204) rfl)) rfl
set_option maxRecDepth 20000 in
theorem m_2_205 : (Jvm.Cond.code ({ cls := "DrawerGloves$Makings", name := "afterWorstLoss", desc := "(LDrawerGloves$Drawer;I)I" } : Jvm.MethodName) prog_8_method_8_code (5 : Nat) (Option.some Jvm.ClassFile.FieldType.int)) ∈ gtbl := mg (mm_2 (List.mem_of_getElem? (i := 205) rfl)) rfl
set_option maxRecDepth 20000 in
theorem m_2_206 : (Jvm.Cond.methodLink "DrawerGloves$Makings" (86 : Nat) ({ cls := "java/lang/Math", name := "min", desc := "(II)I" } : Jvm.MethodName)) ∈ gtbl := mg (mm_2 (List.mem_of_getElem? (i := 206) rfl)) rfl
set_option maxRecDepth 20000 in
theorem m_2_207 : (Jvm.Cond.static ({ cls := "java/lang/Math", name := "min", desc := "(II)I" } : Jvm.MethodName)) ∈ gtbl := mg (mm_2 (List.mem_of_getElem? (i := 207) rfl)) rfl
set_option maxRecDepth 20000 in
theorem m_2_208 : (Jvm.Cond.code ({ cls := "java/lang/Math", name := "min", desc := "(II)I" } : Jvm.MethodName) prog_15_method_69_code (2 : Nat) (Option.some Jvm.ClassFile.FieldType.int)) ∈ gtbl := mg (mm_2 (List.mem_of_getElem? (i := 208) rfl)) rfl
set_option maxRecDepth 20000 in
theorem m_2_209 : (Jvm.Cond.methodLink "DrawerGloves" (265 : Nat) ({ cls := "DrawerGloves$Makings", name := "afterWorstLoss", desc := "(LDrawerGloves$Drawer;I)I" } : Jvm.MethodName)) ∈ gtbl := mg (mm_2 (List.mem_of_getElem? (i := 209) rfl)) rfl
set_option maxRecDepth 20000 in
theorem m_2_210 : (Jvm.Cond.methodLink "DrawerGlovesLaw" (108 : Nat) ({ cls := "DrawerGloves", name := "lots", desc := "(II)I" } : Jvm.MethodName)) ∈ gtbl := mg (mm_2 (List.mem_of_getElem? (i := 210) rfl)) rfl
set_option maxRecDepth 20000 in
theorem m_2_211 : (Jvm.Cond.instanceMethod ({ cls := "DrawerGloves", name := "lots", desc := "(II)I" } : Jvm.MethodName)) ∈ gtbl := mg (mm_2 (List.mem_of_getElem? (i := 211) rfl)) rfl
set_option maxRecDepth 20000 in
theorem m_2_212 : (Jvm.Cond.selects "DrawerGloves" ({ cls := "DrawerGloves", name := "lots", desc := "(II)I" } : Jvm.MethodName) ({ cls := "DrawerGloves", name := "lots", desc := "(II)I" } : Jvm.MethodName)) ∈ gtbl := mg (mm_2 (List.mem_of_getElem? (i := 212) rfl)) rfl
set_option maxRecDepth 20000 in
theorem m_2_213 : (Jvm.Cond.code ({ cls := "DrawerGloves", name := "lots", desc := "(II)I" } : Jvm.MethodName) prog_1_method_36_code (6 : Nat) (Option.some Jvm.ClassFile.FieldType.int)) ∈ gtbl := mg (mm_2 (List.mem_of_getElem? (i := 213) rfl)) rfl
set_option maxRecDepth 20000 in
theorem m_2_214 : (Jvm.Cond.constantLong "DrawerGloves" (305 : Nat) (2147483647 : Int64)) ∈ gtbl := mg (mm_2 (List.mem_of_getElem? (i := 214) rfl)) rfl
set_option maxRecDepth 20000 in
theorem m_2_215 : (Jvm.Cond.constantLong "DrawerGloves" (307 : Nat) (48271 : Int64)) ∈ gtbl := mg (mm_2 (List.mem_of_getElem? (i := 215) rfl)) rfl
set_option maxRecDepth 20000 in
theorem m_2_216 : (Jvm.Cond.constantLong "DrawerGloves" (309 : Nat) (8 : Int64)) ∈ gtbl := mg (mm_2 (List.mem_of_getElem? (i := 216) rfl)) rfl
set_option maxRecDepth 20000 in
theorem m_2_217 : (Jvm.Cond.methodLink "DrawerGloves" (311 : Nat) ({ cls := "DrawerGloves$Drawer", name := "actByLot", desc := "(J)V" } : Jvm.MethodName)) ∈ gtbl := mg (mm_2 (List.mem_of_getElem? (i := 217) rfl)) rfl
set_option maxRecDepth 20000 in
theorem m_2_218 : (Jvm.Cond.instanceMethod ({ cls := "DrawerGloves$Drawer", name := "actByLot", desc := "(J)V" } : Jvm.MethodName)) ∈ gtbl := mg (mm_2 (List.mem_of_getElem? (i := 218) rfl)) rfl
set_option maxRecDepth 20000 in
theorem m_2_219 : (Jvm.Cond.selects "DrawerGloves$Drawer" ({ cls := "DrawerGloves$Drawer", name := "actByLot", desc := "(J)V" } : Jvm.MethodName) ({ cls := "DrawerGloves$Drawer", name := "actByLot", desc := "(J)V" } : Jvm.MethodName)) ∈ gtbl := mg (mm_2 (List.mem_of_getElem? (i := 219) rfl)) rfl
set_option maxRecDepth 20000 in
theorem m_2_220 : (Jvm.Cond.code ({ cls := "DrawerGloves$Drawer", name := "actByLot", desc := "(J)V" } : Jvm.MethodName) prog_5_method_15_code (4 : Nat) (Option.none : Option Jvm.ClassFile.FieldType)) ∈ gtbl := mg (mm_2 (List.mem_of_getElem? (i := 220) rfl)) rfl
set_option maxRecDepth 20000 in
theorem m_2_221 : (Jvm.Cond.methodLink "DrawerGloves$Drawer" (101 : Nat) ({ cls := "DrawerGloves$Drawer", name := "canBeLost", desc := "(I)Z" } : Jvm.MethodName)) ∈ gtbl := mg (mm_2 (List.mem_of_getElem? (i := 221) rfl)) rfl
set_option maxRecDepth 20000 in
theorem m_2_222 : (Jvm.Cond.methodLink "DrawerGloves$Drawer" (104 : Nat) ({ cls := "DrawerGloves$Drawer", name := "act", desc := "(III)V" } : Jvm.MethodName)) ∈ gtbl := mg (mm_2 (List.mem_of_getElem? (i := 222) rfl)) rfl
set_option maxRecDepth 20000 in
theorem m_2_223 : (Jvm.Cond.methodLink "DrawerGloves$Drawer" (107 : Nat) ({ cls := "DrawerGloves$Drawer", name := "hasRoom", desc := "()Z" } : Jvm.MethodName)) ∈ gtbl := mg (mm_2 (List.mem_of_getElem? (i := 223) rfl)) rfl
set_option maxRecDepth 20000 in
theorem m_2_224 : (Jvm.Cond.instanceMethod ({ cls := "DrawerGloves$Drawer", name := "hasRoom", desc := "()Z" } : Jvm.MethodName)) ∈ gtbl := mg (mm_2 (List.mem_of_getElem? (i := 224) rfl)) rfl
set_option maxRecDepth 20000 in
theorem m_2_225 : (Jvm.Cond.selects "DrawerGloves$Drawer" ({ cls := "DrawerGloves$Drawer", name := "hasRoom", desc := "()Z" } : Jvm.MethodName) ({ cls := "DrawerGloves$Drawer", name := "hasRoom", desc := "()Z" } : Jvm.MethodName)) ∈ gtbl := mg (mm_2 (List.mem_of_getElem? (i := 225) rfl)) rfl
set_option maxRecDepth 20000 in
theorem m_2_226 : (Jvm.Cond.code ({ cls := "DrawerGloves$Drawer", name := "hasRoom", desc := "()Z" } : Jvm.MethodName) prog_5_method_9_code (1 : Nat) (Option.some Jvm.ClassFile.FieldType.boolean)) ∈ gtbl := mg (mm_2 (List.mem_of_getElem? (i := 226) rfl)) rfl
set_option maxRecDepth 20000 in
theorem m_2_227 : (Jvm.Cond.methodLink "DrawerGloves$Drawer" (80 : Nat) ({ cls := "DrawerGloves$Drawer", name := "howManyInside", desc := "()I" } : Jvm.MethodName)) ∈ gtbl := mg (mm_2 (List.mem_of_getElem? (i := 227) rfl)) rfl
set_option maxRecDepth 20000 in
theorem m_2_228 : (Jvm.Cond.methodLink "DrawerGloves$Drawer" (111 : Nat) ({ cls := "DrawerGloves$Drawer", name := "wearFirstPair", desc := "()V" } : Jvm.MethodName)) ∈ gtbl := mg (mm_2 (List.mem_of_getElem? (i := 228) rfl)) rfl
set_option maxRecDepth 20000 in
theorem m_2_230 : (Jvm.Cond.instanceMethod ({ cls := "DrawerGloves$Drawer", name := "wearFirstPair", desc := "()V" } : Jvm.MethodName)) ∈ gtbl := mg (mm_2 (List.mem_of_getElem? (i := 230) rfl)) rfl
set_option maxRecDepth 20000 in
theorem m_2_231 : (Jvm.Cond.code ({ cls := "DrawerGloves$Drawer", name := "wearFirstPair", desc := "()V" } : Jvm.MethodName) prog_5_method_16_code (3 : Nat) (Option.none : Option Jvm.ClassFile.FieldType)) ∈ gtbl := mg (mm_2 (List.mem_of_getElem? (i := 231) rfl)) rfl
set_option maxRecDepth 20000 in
theorem m_2_232 : (Jvm.Cond.methodLink "DrawerGloves$Drawer" (90 : Nat) ({ cls := "DrawerGloves$Glove", name := "makesPairWith", desc := "(LDrawerGloves$Glove;)Z" } : Jvm.MethodName)) ∈ gtbl := mg (mm_2 (List.mem_of_getElem? (i := 232) rfl)) rfl
set_option maxRecDepth 20000 in
theorem m_2_233 : (Jvm.Cond.methodLink "DrawerGlovesLaw" (111 : Nat) ({ cls := "DrawerGloves", name := "count", desc := "(I)I" } : Jvm.MethodName)) ∈ gtbl := mg (mm_2 (List.mem_of_getElem? (i := 233) rfl)) rfl
set_option maxRecDepth 20000 in
theorem m_2_234 : (Jvm.Cond.instanceMethod ({ cls := "DrawerGloves", name := "count", desc := "(I)I" } : Jvm.MethodName)) ∈ gtbl := mg (mm_2 (List.mem_of_getElem? (i := 234) rfl)) rfl
set_option maxRecDepth 20000 in
theorem m_2_235 : (Jvm.Cond.selects "DrawerGloves" ({ cls := "DrawerGloves", name := "count", desc := "(I)I" } : Jvm.MethodName) ({ cls := "DrawerGloves", name := "count", desc := "(I)I" } : Jvm.MethodName)) ∈ gtbl := mg (mm_2 (List.mem_of_getElem? (i := 235) rfl)) rfl
set_option maxRecDepth 20000 in
theorem m_2_236 : (Jvm.Cond.code ({ cls := "DrawerGloves", name := "count", desc := "(I)I" } : Jvm.MethodName) prog_1_method_40_code (2 : Nat) (Option.some Jvm.ClassFile.FieldType.int)) ∈ gtbl := mg (mm_2 (List.mem_of_getElem? (i := 236) rfl)) rfl
set_option maxRecDepth 20000 in
theorem m_2_237 : (Jvm.Cond.methodLink "DrawerGloves" (251 : Nat) ({ cls := "DrawerGloves$Drawer", name := "setOf", desc := "(I)I" } : Jvm.MethodName)) ∈ gtbl := mg (mm_2 (List.mem_of_getElem? (i := 237) rfl)) rfl
set_option maxRecDepth 20000 in
theorem m_2_238 : (Jvm.Cond.methodLink "DrawerGloves" (325 : Nat) ({ cls := "DrawerGloves$Drawer", name := "allWear", desc := "()I" } : Jvm.MethodName)) ∈ gtbl := mg (mm_2 (List.mem_of_getElem? (i := 238) rfl)) rfl
set_option maxRecDepth 20000 in
theorem m_2_239 : (Jvm.Cond.instanceMethod ({ cls := "DrawerGloves$Drawer", name := "allWear", desc := "()I" } : Jvm.MethodName)) ∈ gtbl := mg (mm_2 (List.mem_of_getElem? (i := 239) rfl)) rfl
set_option maxRecDepth 20000 in
theorem m_3_0 : (Jvm.Cond.selects "DrawerGloves$Drawer" ({ cls := "DrawerGloves$Drawer", name := "allWear", desc := "()I" } : Jvm.MethodName) ({ cls := "DrawerGloves$Drawer", name := "allWear", desc := "()I" } : Jvm.MethodName)) ∈ gtbl := mg (mm_3 (List.mem_of_getElem? (i := 0) rfl)) rfl
set_option maxRecDepth 20000 in
theorem m_3_1 : (Jvm.Cond.code ({ cls := "DrawerGloves$Drawer", name := "allWear", desc := "()I" } : Jvm.MethodName) prog_5_method_10_code (3 : Nat) (Option.some Jvm.ClassFile.FieldType.int)) ∈ gtbl := mg (mm_3 (List.mem_of_getElem? (i := 1) rfl)) rfl
set_option maxRecDepth 20000 in
theorem m_3_2 : (Jvm.Cond.methodLink "DrawerGloves" (328 : Nat) ({ cls := "DrawerGloves$Drawer", name := "howManyOf", desc := "(I)I" } : Jvm.MethodName)) ∈ gtbl := mg (mm_3 (List.mem_of_getElem? (i := 2) rfl)) rfl
set_option maxRecDepth 20000 in
theorem m_3_3 : (Jvm.Cond.instanceMethod ({ cls := "DrawerGloves$Drawer", name := "howManyOf", desc := "(I)I" } : Jvm.MethodName)) ∈ gtbl := mg (mm_3 (List.mem_of_getElem? (i := 3) rfl)) rfl
set_option maxRecDepth 20000 in
theorem m_3_4 : (Jvm.Cond.selects "DrawerGloves$Drawer" ({ cls := "DrawerGloves$Drawer", name := "howManyOf", desc := "(I)I" } : Jvm.MethodName) ({ cls := "DrawerGloves$Drawer", name := "howManyOf", desc := "(I)I" } : Jvm.MethodName)) ∈ gtbl := mg (mm_3 (List.mem_of_getElem? (i := 4) rfl)) rfl
set_option maxRecDepth 20000 in
theorem m_3_5 : (Jvm.Cond.code ({ cls := "DrawerGloves$Drawer", name := "howManyOf", desc := "(I)I" } : Jvm.MethodName) prog_5_method_11_code (4 : Nat) (Option.some Jvm.ClassFile.FieldType.int)) ∈ gtbl := mg (mm_3 (List.mem_of_getElem? (i := 5) rfl)) rfl
set_option maxRecDepth 20000 in
theorem m_3_6 : (Jvm.Cond.methodLink "DrawerGloves$Drawer" (87 : Nat) ({ cls := "DrawerGloves$Glove", name := "isOf", desc := "(I)Z" } : Jvm.MethodName)) ∈ gtbl := mg (mm_3 (List.mem_of_getElem? (i := 6) rfl)) rfl
set_option maxRecDepth 20000 in
theorem m_3_7 : (Jvm.Cond.methodLink "DrawerGloves" (331 : Nat) ({ cls := "DrawerGloves$Rows", name := "howManyThere", desc := "()I" } : Jvm.MethodName)) ∈ gtbl := mg (mm_3 (List.mem_of_getElem? (i := 7) rfl)) rfl
set_option maxRecDepth 20000 in
theorem m_3_8 : (Jvm.Cond.instanceMethod ({ cls := "DrawerGloves$Rows", name := "howManyThere", desc := "()I" } : Jvm.MethodName)) ∈ gtbl := mg (mm_3 (List.mem_of_getElem? (i := 8) rfl)) rfl
set_option maxRecDepth 20000 in
theorem m_3_9 : (Jvm.Cond.selects "DrawerGloves$Rows" ({ cls := "DrawerGloves$Rows", name := "howManyThere", desc := "()I" } : Jvm.MethodName) ({ cls := "DrawerGloves$Rows", name := "howManyThere", desc := "()I" } : Jvm.MethodName)) ∈ gtbl := mg (mm_3 (List.mem_of_getElem? (i := 9) rfl)) rfl
set_option maxRecDepth 20000 in
theorem m_3_10 : (Jvm.Cond.code ({ cls := "DrawerGloves$Rows", name := "howManyThere", desc := "()I" } : Jvm.MethodName) prog_11_method_13_code (3 : Nat) (Option.some Jvm.ClassFile.FieldType.int)) ∈ gtbl := mg (mm_3 (List.mem_of_getElem? (i := 10) rfl)) rfl
set_option maxRecDepth 20000 in
theorem m_3_11 : (Jvm.Cond.methodLink "DrawerGloves$Rows" (58 : Nat) ({ cls := "DrawerGloves$Rows", name := "isThere", desc := "(I)Z" } : Jvm.MethodName)) ∈ gtbl := mg (mm_3 (List.mem_of_getElem? (i := 11) rfl)) rfl
set_option maxRecDepth 20000 in
theorem m_3_12 : (Jvm.Cond.instanceMethod ({ cls := "DrawerGloves$Rows", name := "isThere", desc := "(I)Z" } : Jvm.MethodName)) ∈ gtbl := mg (mm_3 (List.mem_of_getElem? (i := 12) rfl)) rfl
set_option maxRecDepth 20000 in
theorem m_3_13 : (Jvm.Cond.selects "DrawerGloves$Rows" ({ cls := "DrawerGloves$Rows", name := "isThere", desc := "(I)Z" } : Jvm.MethodName) ({ cls := "DrawerGloves$Rows", name := "isThere", desc := "(I)Z" } : Jvm.MethodName)) ∈ gtbl := mg (mm_3 (List.mem_of_getElem? (i := 13) rfl)) rfl
set_option maxRecDepth 20000 in
theorem m_3_14 : (Jvm.Cond.code ({ cls := "DrawerGloves$Rows", name := "isThere", desc := "(I)Z" } : Jvm.MethodName) prog_11_method_4_code (2 : Nat) (Option.some Jvm.ClassFile.FieldType.boolean)) ∈ gtbl := mg (mm_3 (List.mem_of_getElem? (i := 14) rfl)) rfl
set_option maxRecDepth 20000 in
theorem m_3_15 : (Jvm.Cond.methodLink "DrawerGloves$Rows" (37 : Nat) ({ cls := "DrawerGloves$Rows", name := "sizeOf", desc := "(I)I" } : Jvm.MethodName)) ∈ gtbl := mg (mm_3 (List.mem_of_getElem? (i := 15) rfl)) rfl
set_option maxRecDepth 20000 in
theorem m_3_16 : (Jvm.Cond.instanceMethod ({ cls := "DrawerGloves$Rows", name := "sizeOf", desc := "(I)I" } : Jvm.MethodName)) ∈ gtbl := mg (mm_3 (List.mem_of_getElem? (i := 16) rfl)) rfl
set_option maxRecDepth 20000 in
theorem m_3_17 : (Jvm.Cond.selects "DrawerGloves$Rows" ({ cls := "DrawerGloves$Rows", name := "sizeOf", desc := "(I)I" } : Jvm.MethodName) ({ cls := "DrawerGloves$Rows", name := "sizeOf", desc := "(I)I" } : Jvm.MethodName)) ∈ gtbl := mg (mm_3 (List.mem_of_getElem? (i := 17) rfl)) rfl
set_option maxRecDepth 20000 in
theorem m_3_18 : (Jvm.Cond.code ({ cls := "DrawerGloves$Rows", name := "sizeOf", desc := "(I)I" } : Jvm.MethodName) prog_11_method_3_code (2 : Nat) (Option.some Jvm.ClassFile.FieldType.int)) ∈ gtbl := mg (mm_3 (List.mem_of_getElem? (i := 18) rfl)) rfl
set_option maxRecDepth 20000 in
theorem m_3_19 : (Jvm.Cond.methodLink "DrawerGloves$Rows" (33 : Nat) ({ cls := "DrawerGloves$Rows", name := "isNumber", desc := "(I)Z" } : Jvm.MethodName)) ∈ gtbl := mg (mm_3 (List.mem_of_getElem? (i := 19) rfl)) rfl
set_option maxRecDepth 20000 in
theorem m_3_20 : (Jvm.Cond.instanceMethod ({ cls := "DrawerGloves$Rows", name := "isNumber", desc := "(I)Z" } : Jvm.MethodName)) ∈ gtbl := mg (mm_3 (List.mem_of_getElem? (i := 20) rfl)) rfl
set_option maxRecDepth 20000 in
theorem m_3_21 : (Jvm.Cond.selects "DrawerGloves$Rows" ({ cls := "DrawerGloves$Rows", name := "isNumber", desc := "(I)Z" } : Jvm.MethodName) ({ cls := "DrawerGloves$Rows", name := "isNumber", desc := "(I)Z" } : Jvm.MethodName)) ∈ gtbl := mg (mm_3 (List.mem_of_getElem? (i := 21) rfl)) rfl
set_option maxRecDepth 20000 in
theorem m_3_22 : (Jvm.Cond.code ({ cls := "DrawerGloves$Rows", name := "isNumber", desc := "(I)Z" } : Jvm.MethodName) prog_11_method_2_code (2 : Nat) (Option.some Jvm.ClassFile.FieldType.boolean)) ∈ gtbl := mg (mm_3 (List.mem_of_getElem? (i := 22) rfl)) rfl
set_option maxRecDepth 20000 in
theorem m_3_23 : (Jvm.Cond.methodLink "DrawerGloves" (334 : Nat) ({ cls := "DrawerGloves", name := "howManyKept", desc := "()I" } : Jvm.MethodName)) ∈ gtbl := mg (mm_3 (List.mem_of_getElem? (i := 23) rfl)) rfl
set_option maxRecDepth 20000 in
theorem m_3_25 : (Jvm.Cond.instanceMethod ({ cls := "DrawerGloves", name := "howManyKept", desc := "()I" } : Jvm.MethodName)) ∈ gtbl := mg (mm_3 (List.mem_of_getElem? (i := 25) rfl)) rfl
set_option maxRecDepth 20000 in
theorem m_3_26 : (Jvm.Cond.code ({ cls := "DrawerGloves", name := "howManyKept", desc := "()I" } : Jvm.MethodName) prog_1_method_51_code (3 : Nat) (Option.some Jvm.ClassFile.FieldType.int)) ∈ gtbl := mg (mm_3 (List.mem_of_getElem? (i := 26) rfl)) rfl
set_option maxRecDepth 20000 in
theorem m_3_27 : (Jvm.Cond.methodLink "DrawerGlovesLaw" (135 : Nat) ({ cls := "DrawerGloves", name := "digest", desc := "()J" } : Jvm.MethodName)) ∈ gtbl := mg (mm_3 (List.mem_of_getElem? (i := 27) rfl)) rfl
set_option maxRecDepth 20000 in
theorem m_3_28 : (Jvm.Cond.instanceMethod ({ cls := "DrawerGloves", name := "digest", desc := "()J" } : Jvm.MethodName)) ∈ gtbl := mg (mm_3 (List.mem_of_getElem? (i := 28) rfl)) rfl
set_option maxRecDepth 20000 in
theorem m_3_29 : (Jvm.Cond.selects "DrawerGloves" ({ cls := "DrawerGloves", name := "digest", desc := "()J" } : Jvm.MethodName) ({ cls := "DrawerGloves", name := "digest", desc := "()J" } : Jvm.MethodName)) ∈ gtbl := mg (mm_3 (List.mem_of_getElem? (i := 29) rfl)) rfl
set_option maxRecDepth 20000 in
theorem m_3_30 : (Jvm.Cond.code ({ cls := "DrawerGloves", name := "digest", desc := "()J" } : Jvm.MethodName) prog_1_method_43_code (5 : Nat) (Option.some Jvm.ClassFile.FieldType.long)) ∈ gtbl := mg (mm_3 (List.mem_of_getElem? (i := 30) rfl)) rfl
set_option maxRecDepth 20000 in
theorem m_3_31 : (Jvm.Cond.constantLong "DrawerGloves" (337 : Nat) (17 : Int64)) ∈ gtbl := mg (mm_3 (List.mem_of_getElem? (i := 31) rfl)) rfl
set_option maxRecDepth 20000 in
theorem m_3_32 : (Jvm.Cond.constantLong "DrawerGloves" (339 : Nat) (31 : Int64)) ∈ gtbl := mg (mm_3 (List.mem_of_getElem? (i := 32) rfl)) rfl
set_option maxRecDepth 20000 in
theorem m_3_33 : (Jvm.Cond.methodLink "DrawerGloves" (341 : Nat) ({ cls := "DrawerGloves", name := "count", desc := "(I)I" } : Jvm.MethodName)) ∈ gtbl := mg (mm_3 (List.mem_of_getElem? (i := 33) rfl)) rfl
set_option maxRecDepth 20000 in
theorem m_3_34 : (Jvm.Cond.methodLink "DrawerGloves" (164 : Nat) ({ cls := "DrawerGloves$Glove", name := "tell", desc := "(I)I" } : Jvm.MethodName)) ∈ gtbl := mg (mm_3 (List.mem_of_getElem? (i := 34) rfl)) rfl
set_option maxRecDepth 20000 in
theorem m_3_35 : (Jvm.Cond.instanceMethod ({ cls := "DrawerGloves$Glove", name := "tell", desc := "(I)I" } : Jvm.MethodName)) ∈ gtbl := mg (mm_3 (List.mem_of_getElem? (i := 35) rfl)) rfl
set_option maxRecDepth 20000 in
theorem m_3_36 : (Jvm.Cond.selects "DrawerGloves$Glove" ({ cls := "DrawerGloves$Glove", name := "tell", desc := "(I)I" } : Jvm.MethodName) ({ cls := "DrawerGloves$Glove", name := "tell", desc := "(I)I" } : Jvm.MethodName)) ∈ gtbl := mg (mm_3 (List.mem_of_getElem? (i := 36) rfl)) rfl
set_option maxRecDepth 20000 in
theorem m_3_37 : (Jvm.Cond.code ({ cls := "DrawerGloves$Glove", name := "tell", desc := "(I)I" } : Jvm.MethodName) prog_6_method_9_code (2 : Nat) (Option.some Jvm.ClassFile.FieldType.int)) ∈ gtbl := mg (mm_3 (List.mem_of_getElem? (i := 37) rfl)) rfl
set_option maxRecDepth 20000 in
theorem m_3_38 : (Jvm.Cond.methodLink "DrawerGloves" (344 : Nat) ({ cls := "DrawerGloves$Rows", name := "digestOn", desc := "(J)J" } : Jvm.MethodName)) ∈ gtbl := mg (mm_3 (List.mem_of_getElem? (i := 38) rfl)) rfl
set_option maxRecDepth 20000 in
theorem m_3_39 : (Jvm.Cond.instanceMethod ({ cls := "DrawerGloves$Rows", name := "digestOn", desc := "(J)J" } : Jvm.MethodName)) ∈ gtbl := mg (mm_3 (List.mem_of_getElem? (i := 39) rfl)) rfl
set_option maxRecDepth 20000 in
theorem m_3_40 : (Jvm.Cond.selects "DrawerGloves$Rows" ({ cls := "DrawerGloves$Rows", name := "digestOn", desc := "(J)J" } : Jvm.MethodName) ({ cls := "DrawerGloves$Rows", name := "digestOn", desc := "(J)J" } : Jvm.MethodName)) ∈ gtbl := mg (mm_3 (List.mem_of_getElem? (i := 40) rfl)) rfl
set_option maxRecDepth 20000 in
theorem m_3_41 : (Jvm.Cond.code ({ cls := "DrawerGloves$Rows", name := "digestOn", desc := "(J)J" } : Jvm.MethodName) prog_11_method_14_code (5 : Nat) (Option.some Jvm.ClassFile.FieldType.long)) ∈ gtbl := mg (mm_3 (List.mem_of_getElem? (i := 41) rfl)) rfl
set_option maxRecDepth 20000 in
theorem m_3_42 : (Jvm.Cond.constantLong "DrawerGloves$Rows" (61 : Nat) (31 : Int64)) ∈ gtbl := mg (mm_3 (List.mem_of_getElem? (i := 42) rfl)) rfl
set_option maxRecDepth 20000 in
theorem m_3_43 : (Jvm.Cond.methodLink "DrawerGloves$Rows" (55 : Nat) ({ cls := "DrawerGloves$Rows", name := "read", desc := "(II)I" } : Jvm.MethodName)) ∈ gtbl := mg (mm_3 (List.mem_of_getElem? (i := 43) rfl)) rfl
set_option maxRecDepth 20000 in
theorem m_3_44 : (Jvm.Cond.instanceMethod ({ cls := "DrawerGloves$Rows", name := "read", desc := "(II)I" } : Jvm.MethodName)) ∈ gtbl := mg (mm_3 (List.mem_of_getElem? (i := 44) rfl)) rfl
set_option maxRecDepth 20000 in
theorem m_3_45 : (Jvm.Cond.selects "DrawerGloves$Rows" ({ cls := "DrawerGloves$Rows", name := "read", desc := "(II)I" } : Jvm.MethodName) ({ cls := "DrawerGloves$Rows", name := "read", desc := "(II)I" } : Jvm.MethodName)) ∈ gtbl := mg (mm_3 (List.mem_of_getElem? (i := 45) rfl)) rfl
set_option maxRecDepth 20000 in
theorem m_3_46 : (Jvm.Cond.code ({ cls := "DrawerGloves$Rows", name := "read", desc := "(II)I" } : Jvm.MethodName) prog_11_method_9_code (3 : Nat) (Option.some Jvm.ClassFile.FieldType.int)) ∈ gtbl := mg (mm_3 (List.mem_of_getElem? (i := 46) rfl)) rfl
set_option maxRecDepth 20000 in
theorem m_3_47 : (Jvm.Cond.methodLink "DrawerGloves$Rows" (41 : Nat) ({ cls := "DrawerGloves$Rows", name := "holds", desc := "(II)Z" } : Jvm.MethodName)) ∈ gtbl := mg (mm_3 (List.mem_of_getElem? (i := 47) rfl)) rfl
set_option maxRecDepth 20000 in
theorem m_3_48 : (Jvm.Cond.instanceMethod ({ cls := "DrawerGloves$Rows", name := "holds", desc := "(II)Z" } : Jvm.MethodName)) ∈ gtbl := mg (mm_3 (List.mem_of_getElem? (i := 48) rfl)) rfl
set_option maxRecDepth 20000 in
theorem m_3_49 : (Jvm.Cond.selects "DrawerGloves$Rows" ({ cls := "DrawerGloves$Rows", name := "holds", desc := "(II)Z" } : Jvm.MethodName) ({ cls := "DrawerGloves$Rows", name := "holds", desc := "(II)Z" } : Jvm.MethodName)) ∈ gtbl := mg (mm_3 (List.mem_of_getElem? (i := 49) rfl)) rfl
set_option maxRecDepth 20000 in
theorem m_3_50 : (Jvm.Cond.code ({ cls := "DrawerGloves$Rows", name := "holds", desc := "(II)Z" } : Jvm.MethodName) prog_11_method_5_code (3 : Nat) (Option.some Jvm.ClassFile.FieldType.boolean)) ∈ gtbl := mg (mm_3 (List.mem_of_getElem? (i := 50) rfl)) rfl
set_option maxRecDepth 20000 in
theorem m_3_51 : (Jvm.Cond.methodLink "DrawerGlovesLaw" (152 : Nat) ({ cls := "DrawerGlovesLaw", name := "cell", desc := "([II)I" } : Jvm.MethodName)) ∈ gtbl := mg (mm_3 (List.mem_of_getElem? (i := 51) rfl)) rfl
set_option maxRecDepth 20000 in
theorem m_3_52 : (Jvm.Cond.static ({ cls := "DrawerGlovesLaw", name := "cell", desc := "([II)I" } : Jvm.MethodName)) ∈ gtbl := mg (mm_3 (List.mem_of_getElem? (i := 52) rfl)) rfl
set_option maxRecDepth 20000 in
theorem m_3_53 : (Jvm.Cond.code ({ cls := "DrawerGlovesLaw", name := "cell", desc := "([II)I" } : Jvm.MethodName) method_2_code (2 : Nat) (Option.some Jvm.ClassFile.FieldType.int)) ∈ gtbl := mg (mm_3 (List.mem_of_getElem? (i := 53) rfl)) rfl
set_option maxRecDepth 20000 in
theorem m_3_54 : (Jvm.Cond.constant "DrawerGlovesLaw" (7 : Nat) (747796405 : Int32)) ∈ gtbl := mg (mm_3 (List.mem_of_getElem? (i := 54) rfl)) rfl
set_option maxRecDepth 20000 in
theorem m_3_55 : (Jvm.Cond.methodLink "DrawerGlovesLaw" (117 : Nat) ({ cls := "DrawerGlovesLaw", name := "low", desc := "(II)I" } : Jvm.MethodName)) ∈ gtbl := mg (mm_3 (List.mem_of_getElem? (i := 55) rfl)) rfl
set_option maxRecDepth 20000 in
theorem m_3_56 : (Jvm.Cond.static ({ cls := "DrawerGlovesLaw", name := "low", desc := "(II)I" } : Jvm.MethodName)) ∈ gtbl := mg (mm_3 (List.mem_of_getElem? (i := 56) rfl)) rfl
set_option maxRecDepth 20000 in
theorem m_3_57 : (Jvm.Cond.code ({ cls := "DrawerGlovesLaw", name := "low", desc := "(II)I" } : Jvm.MethodName) method_3_code (2 : Nat) (Option.some Jvm.ClassFile.FieldType.int)) ∈ gtbl := mg (mm_3 (List.mem_of_getElem? (i := 57) rfl)) rfl
set_option maxRecDepth 20000 in
theorem m_3_58 : (Jvm.Cond.constant "DrawerGlovesLaw" (8 : Nat) (2147483647 : Int32)) ∈ gtbl := mg (mm_3 (List.mem_of_getElem? (i := 58) rfl)) rfl
set_option maxRecDepth 20000 in
theorem m_3_59 : (Jvm.Cond.methodLink "DrawerGlovesLaw" (156 : Nat) ({ cls := "DrawerGlovesLaw", name := "refused", desc := "(LDrawerGloves;I)Z" } : Jvm.MethodName)) ∈ gtbl := mg (mm_3 (List.mem_of_getElem? (i := 59) rfl)) rfl
set_option maxRecDepth 20000 in
theorem m_3_60 : (Jvm.Cond.static ({ cls := "DrawerGlovesLaw", name := "refused", desc := "(LDrawerGloves;I)Z" } : Jvm.MethodName)) ∈ gtbl := mg (mm_3 (List.mem_of_getElem? (i := 60) rfl)) rfl
set_option maxRecDepth 20000 in
theorem m_3_61 : (Jvm.Cond.code ({ cls := "DrawerGlovesLaw", name := "refused", desc := "(LDrawerGloves;I)Z" } : Jvm.MethodName) method_4_code (3 : Nat) (Option.some Jvm.ClassFile.FieldType.boolean)) ∈ gtbl := mg (mm_3 (List.mem_of_getElem? (i := 61) rfl)) rfl
set_option maxRecDepth 20000 in
theorem m_3_62 : (Jvm.Cond.methodLink "DrawerGlovesLaw" (9 : Nat) ({ cls := "DrawerGloves", name := "row", desc := "(II)I" } : Jvm.MethodName)) ∈ gtbl := mg (mm_3 (List.mem_of_getElem? (i := 62) rfl)) rfl
set_option maxRecDepth 20000 in
theorem m_3_63 : (Jvm.Cond.instanceMethod ({ cls := "DrawerGloves", name := "row", desc := "(II)I" } : Jvm.MethodName)) ∈ gtbl := mg (mm_3 (List.mem_of_getElem? (i := 63) rfl)) rfl
set_option maxRecDepth 20000 in
theorem m_3_64 : (Jvm.Cond.selects "DrawerGloves" ({ cls := "DrawerGloves", name := "row", desc := "(II)I" } : Jvm.MethodName) ({ cls := "DrawerGloves", name := "row", desc := "(II)I" } : Jvm.MethodName)) ∈ gtbl := mg (mm_3 (List.mem_of_getElem? (i := 64) rfl)) rfl
set_option maxRecDepth 20000 in
theorem m_3_65 : (Jvm.Cond.code ({ cls := "DrawerGloves", name := "row", desc := "(II)I" } : Jvm.MethodName) prog_1_method_2_code (3 : Nat) (Option.some Jvm.ClassFile.FieldType.int)) ∈ gtbl := mg (mm_3 (List.mem_of_getElem? (i := 65) rfl)) rfl
set_option maxRecDepth 20000 in
theorem m_3_66 : (Jvm.Cond.methodLink "DrawerGloves" (91 : Nat) ({ cls := "DrawerGloves$Rows", name := "isNumber", desc := "(I)Z" } : Jvm.MethodName)) ∈ gtbl := mg (mm_3 (List.mem_of_getElem? (i := 66) rfl)) rfl
set_option maxRecDepth 20000 in
theorem m_3_67 : (Jvm.Cond.methodLink "DrawerGloves" (99 : Nat) ({ cls := "DrawerGloves$Rows", name := "begin", desc := "(II)V" } : Jvm.MethodName)) ∈ gtbl := mg (mm_3 (List.mem_of_getElem? (i := 67) rfl)) rfl
set_option maxRecDepth 20000 in
theorem m_3_68 : (Jvm.Cond.instanceMethod ({ cls := "DrawerGloves$Rows", name := "begin", desc := "(II)V" } : Jvm.MethodName)) ∈ gtbl := mg (mm_3 (List.mem_of_getElem? (i := 68) rfl)) rfl
set_option maxRecDepth 20000 in
theorem m_3_69 : (Jvm.Cond.selects "DrawerGloves$Rows" ({ cls := "DrawerGloves$Rows", name := "begin", desc := "(II)V" } : Jvm.MethodName) ({ cls := "DrawerGloves$Rows", name := "begin", desc := "(II)V" } : Jvm.MethodName)) ∈ gtbl := mg (mm_3 (List.mem_of_getElem? (i := 69) rfl)) rfl
set_option maxRecDepth 20000 in
theorem m_3_70 : (Jvm.Cond.code ({ cls := "DrawerGloves$Rows", name := "begin", desc := "(II)V" } : Jvm.MethodName) prog_11_method_7_code (4 : Nat) (Option.none : Option Jvm.ClassFile.FieldType)) ∈ gtbl := mg (mm_3 (List.mem_of_getElem? (i := 70) rfl)) rfl
set_option maxRecDepth 20000 in
theorem m_3_71 : (Jvm.Cond.methodLink "DrawerGlovesLaw" (15 : Nat) ({ cls := "DrawerGloves", name := "lay", desc := "(III)I" } : Jvm.MethodName)) ∈ gtbl := mg (mm_3 (List.mem_of_getElem? (i := 71) rfl)) rfl
set_option maxRecDepth 20000 in
theorem m_3_72 : (Jvm.Cond.instanceMethod ({ cls := "DrawerGloves", name := "lay", desc := "(III)I" } : Jvm.MethodName)) ∈ gtbl := mg (mm_3 (List.mem_of_getElem? (i := 72) rfl)) rfl
set_option maxRecDepth 20000 in
theorem m_3_73 : (Jvm.Cond.selects "DrawerGloves" ({ cls := "DrawerGloves", name := "lay", desc := "(III)I" } : Jvm.MethodName) ({ cls := "DrawerGloves", name := "lay", desc := "(III)I" } : Jvm.MethodName)) ∈ gtbl := mg (mm_3 (List.mem_of_getElem? (i := 73) rfl)) rfl
set_option maxRecDepth 20000 in
theorem m_3_74 : (Jvm.Cond.code ({ cls := "DrawerGloves", name := "lay", desc := "(III)I" } : Jvm.MethodName) prog_1_method_3_code (6 : Nat) (Option.some Jvm.ClassFile.FieldType.int)) ∈ gtbl := mg (mm_3 (List.mem_of_getElem? (i := 74) rfl)) rfl
set_option maxRecDepth 20000 in
theorem m_3_75 : (Jvm.Cond.methodLink "DrawerGloves" (103 : Nat) ({ cls := "DrawerGloves", name := "refusedPlace", desc := "(II)I" } : Jvm.MethodName)) ∈ gtbl := mg (mm_3 (List.mem_of_getElem? (i := 75) rfl)) rfl
set_option maxRecDepth 20000 in
theorem m_3_77 : (Jvm.Cond.instanceMethod ({ cls := "DrawerGloves", name := "refusedPlace", desc := "(II)I" } : Jvm.MethodName)) ∈ gtbl := mg (mm_3 (List.mem_of_getElem? (i := 77) rfl)) rfl
set_option maxRecDepth 20000 in
theorem m_3_78 : (Jvm.Cond.code ({ cls := "DrawerGloves", name := "refusedPlace", desc := "(II)I" } : Jvm.MethodName) prog_1_method_47_code (4 : Nat) (Option.some Jvm.ClassFile.FieldType.int)) ∈ gtbl := mg (mm_3 (List.mem_of_getElem? (i := 78) rfl)) rfl
set_option maxRecDepth 20000 in
theorem m_3_79 : (Jvm.Cond.methodLink "DrawerGloves" (116 : Nat) ({ cls := "DrawerGloves", name := "refusedRow", desc := "(I)I" } : Jvm.MethodName)) ∈ gtbl := mg (mm_3 (List.mem_of_getElem? (i := 79) rfl)) rfl
set_option maxRecDepth 20000 in
theorem m_3_81 : (Jvm.Cond.instanceMethod ({ cls := "DrawerGloves", name := "refusedRow", desc := "(I)I" } : Jvm.MethodName)) ∈ gtbl := mg (mm_3 (List.mem_of_getElem? (i := 81) rfl)) rfl
set_option maxRecDepth 20000 in
theorem m_3_82 : (Jvm.Cond.code ({ cls := "DrawerGloves", name := "refusedRow", desc := "(I)I" } : Jvm.MethodName) prog_1_method_46_code (2 : Nat) (Option.some Jvm.ClassFile.FieldType.int)) ∈ gtbl := mg (mm_3 (List.mem_of_getElem? (i := 82) rfl)) rfl
set_option maxRecDepth 20000 in
theorem m_3_83 : (Jvm.Cond.methodLink "DrawerGloves" (123 : Nat) ({ cls := "DrawerGloves$Rows", name := "isThere", desc := "(I)Z" } : Jvm.MethodName)) ∈ gtbl := mg (mm_3 (List.mem_of_getElem? (i := 83) rfl)) rfl
set_option maxRecDepth 20000 in
theorem m_3_84 : (Jvm.Cond.methodLink "DrawerGloves" (144 : Nat) ({ cls := "DrawerGloves$Rows", name := "holds", desc := "(II)Z" } : Jvm.MethodName)) ∈ gtbl := mg (mm_3 (List.mem_of_getElem? (i := 84) rfl)) rfl
set_option maxRecDepth 20000 in
theorem m_3_85 : (Jvm.Cond.methodLink "DrawerGloves" (107 : Nat) ({ cls := "DrawerGloves$Rows", name := "read", desc := "(II)I" } : Jvm.MethodName)) ∈ gtbl := mg (mm_3 (List.mem_of_getElem? (i := 85) rfl)) rfl
set_option maxRecDepth 20000 in
theorem m_3_86 : (Jvm.Cond.methodLink "DrawerGloves" (110 : Nat) ({ cls := "DrawerGloves$Rows", name := "write", desc := "(III)V" } : Jvm.MethodName)) ∈ gtbl := mg (mm_3 (List.mem_of_getElem? (i := 86) rfl)) rfl
set_option maxRecDepth 20000 in
theorem m_3_87 : (Jvm.Cond.instanceMethod ({ cls := "DrawerGloves$Rows", name := "write", desc := "(III)V" } : Jvm.MethodName)) ∈ gtbl := mg (mm_3 (List.mem_of_getElem? (i := 87) rfl)) rfl
set_option maxRecDepth 20000 in
theorem m_3_88 : (Jvm.Cond.selects "DrawerGloves$Rows" ({ cls := "DrawerGloves$Rows", name := "write", desc := "(III)V" } : Jvm.MethodName) ({ cls := "DrawerGloves$Rows", name := "write", desc := "(III)V" } : Jvm.MethodName)) ∈ gtbl := mg (mm_3 (List.mem_of_getElem? (i := 88) rfl)) rfl
set_option maxRecDepth 20000 in
theorem m_3_89 : (Jvm.Cond.code ({ cls := "DrawerGloves$Rows", name := "write", desc := "(III)V" } : Jvm.MethodName) prog_11_method_10_code (4 : Nat) (Option.none : Option Jvm.ClassFile.FieldType)) ∈ gtbl := mg (mm_3 (List.mem_of_getElem? (i := 89) rfl)) rfl
set_option maxRecDepth 20000 in
theorem m_3_90 : (Jvm.Cond.methodLink "DrawerGloves" (113 : Nat) ({ cls := "DrawerGloves", name := "tells", desc := "(I)I" } : Jvm.MethodName)) ∈ gtbl := mg (mm_3 (List.mem_of_getElem? (i := 90) rfl)) rfl
set_option maxRecDepth 20000 in
theorem m_3_92 : (Jvm.Cond.instanceMethod ({ cls := "DrawerGloves", name := "tells", desc := "(I)I" } : Jvm.MethodName)) ∈ gtbl := mg (mm_3 (List.mem_of_getElem? (i := 92) rfl)) rfl
set_option maxRecDepth 20000 in
theorem m_3_93 : (Jvm.Cond.code ({ cls := "DrawerGloves", name := "tells", desc := "(I)I" } : Jvm.MethodName) prog_1_method_45_code (2 : Nat) (Option.some Jvm.ClassFile.FieldType.int)) ∈ gtbl := mg (mm_3 (List.mem_of_getElem? (i := 93) rfl)) rfl
set_option maxRecDepth 20000 in
theorem m_3_94 : (Jvm.Cond.methodLink "DrawerGlovesLaw" (19 : Nat) ({ cls := "DrawerGloves", name := "at", desc := "(II)I" } : Jvm.MethodName)) ∈ gtbl := mg (mm_3 (List.mem_of_getElem? (i := 94) rfl)) rfl
set_option maxRecDepth 20000 in
theorem m_3_95 : (Jvm.Cond.instanceMethod ({ cls := "DrawerGloves", name := "at", desc := "(II)I" } : Jvm.MethodName)) ∈ gtbl := mg (mm_3 (List.mem_of_getElem? (i := 95) rfl)) rfl
set_option maxRecDepth 20000 in
theorem m_3_96 : (Jvm.Cond.selects "DrawerGloves" ({ cls := "DrawerGloves", name := "at", desc := "(II)I" } : Jvm.MethodName) ({ cls := "DrawerGloves", name := "at", desc := "(II)I" } : Jvm.MethodName)) ∈ gtbl := mg (mm_3 (List.mem_of_getElem? (i := 96) rfl)) rfl
set_option maxRecDepth 20000 in
theorem m_3_97 : (Jvm.Cond.code ({ cls := "DrawerGloves", name := "at", desc := "(II)I" } : Jvm.MethodName) prog_1_method_4_code (4 : Nat) (Option.some Jvm.ClassFile.FieldType.int)) ∈ gtbl := mg (mm_3 (List.mem_of_getElem? (i := 97) rfl)) rfl
set_option maxRecDepth 20000 in
theorem m_3_98 : (Jvm.Cond.methodLink "DrawerGlovesLaw" (22 : Nat) ({ cls := "DrawerGloves", name := "tear", desc := "(I)I" } : Jvm.MethodName)) ∈ gtbl := mg (mm_3 (List.mem_of_getElem? (i := 98) rfl)) rfl
set_option maxRecDepth 20000 in
theorem m_3_99 : (Jvm.Cond.instanceMethod ({ cls := "DrawerGloves", name := "tear", desc := "(I)I" } : Jvm.MethodName)) ∈ gtbl := mg (mm_3 (List.mem_of_getElem? (i := 99) rfl)) rfl
set_option maxRecDepth 20000 in
theorem m_3_100 : (Jvm.Cond.selects "DrawerGloves" ({ cls := "DrawerGloves", name := "tear", desc := "(I)I" } : Jvm.MethodName) ({ cls := "DrawerGloves", name := "tear", desc := "(I)I" } : Jvm.MethodName)) ∈ gtbl := mg (mm_3 (List.mem_of_getElem? (i := 100) rfl)) rfl
set_option maxRecDepth 20000 in
theorem m_3_101 : (Jvm.Cond.code ({ cls := "DrawerGloves", name := "tear", desc := "(I)I" } : Jvm.MethodName) prog_1_method_5_code (3 : Nat) (Option.some Jvm.ClassFile.FieldType.int)) ∈ gtbl := mg (mm_3 (List.mem_of_getElem? (i := 101) rfl)) rfl
set_option maxRecDepth 20000 in
theorem m_3_102 : (Jvm.Cond.methodLink "DrawerGloves" (119 : Nat) ({ cls := "DrawerGloves$Rows", name := "drop", desc := "(I)V" } : Jvm.MethodName)) ∈ gtbl := mg (mm_3 (List.mem_of_getElem? (i := 102) rfl)) rfl
set_option maxRecDepth 20000 in
theorem m_3_103 : (Jvm.Cond.instanceMethod ({ cls := "DrawerGloves$Rows", name := "drop", desc := "(I)V" } : Jvm.MethodName)) ∈ gtbl := mg (mm_3 (List.mem_of_getElem? (i := 103) rfl)) rfl
set_option maxRecDepth 20000 in
theorem m_3_104 : (Jvm.Cond.selects "DrawerGloves$Rows" ({ cls := "DrawerGloves$Rows", name := "drop", desc := "(I)V" } : Jvm.MethodName) ({ cls := "DrawerGloves$Rows", name := "drop", desc := "(I)V" } : Jvm.MethodName)) ∈ gtbl := mg (mm_3 (List.mem_of_getElem? (i := 104) rfl)) rfl
set_option maxRecDepth 20000 in
theorem m_3_105 : (Jvm.Cond.code ({ cls := "DrawerGloves$Rows", name := "drop", desc := "(I)V" } : Jvm.MethodName) prog_11_method_8_code (2 : Nat) (Option.none : Option Jvm.ClassFile.FieldType)) ∈ gtbl := mg (mm_3 (List.mem_of_getElem? (i := 105) rfl)) rfl
set_option maxRecDepth 20000 in
theorem m_3_106 : (Jvm.Cond.methodLink "DrawerGlovesLaw" (26 : Nat) ({ cls := "DrawerGloves", name := "copy", desc := "(IIIII)I" } : Jvm.MethodName)) ∈ gtbl := mg (mm_3 (List.mem_of_getElem? (i := 106) rfl)) rfl
set_option maxRecDepth 20000 in
theorem m_3_107 : (Jvm.Cond.instanceMethod ({ cls := "DrawerGloves", name := "copy", desc := "(IIIII)I" } : Jvm.MethodName)) ∈ gtbl := mg (mm_3 (List.mem_of_getElem? (i := 107) rfl)) rfl
set_option maxRecDepth 20000 in
theorem m_3_108 : (Jvm.Cond.selects "DrawerGloves" ({ cls := "DrawerGloves", name := "copy", desc := "(IIIII)I" } : Jvm.MethodName) ({ cls := "DrawerGloves", name := "copy", desc := "(IIIII)I" } : Jvm.MethodName)) ∈ gtbl := mg (mm_3 (List.mem_of_getElem? (i := 108) rfl)) rfl
set_option maxRecDepth 20000 in
theorem m_3_109 : (Jvm.Cond.code ({ cls := "DrawerGloves", name := "copy", desc := "(IIIII)I" } : Jvm.MethodName) prog_1_method_6_code (6 : Nat) (Option.some Jvm.ClassFile.FieldType.int)) ∈ gtbl := mg (mm_3 (List.mem_of_getElem? (i := 109) rfl)) rfl
set_option maxRecDepth 20000 in
theorem m_3_110 : (Jvm.Cond.methodLink "DrawerGloves" (126 : Nat) ({ cls := "DrawerGloves$Rows", name := "reaches", desc := "(III)Z" } : Jvm.MethodName)) ∈ gtbl := mg (mm_3 (List.mem_of_getElem? (i := 110) rfl)) rfl
set_option maxRecDepth 20000 in
theorem m_3_111 : (Jvm.Cond.instanceMethod ({ cls := "DrawerGloves$Rows", name := "reaches", desc := "(III)Z" } : Jvm.MethodName)) ∈ gtbl := mg (mm_3 (List.mem_of_getElem? (i := 111) rfl)) rfl
set_option maxRecDepth 20000 in
theorem m_3_112 : (Jvm.Cond.selects "DrawerGloves$Rows" ({ cls := "DrawerGloves$Rows", name := "reaches", desc := "(III)Z" } : Jvm.MethodName) ({ cls := "DrawerGloves$Rows", name := "reaches", desc := "(III)Z" } : Jvm.MethodName)) ∈ gtbl := mg (mm_3 (List.mem_of_getElem? (i := 112) rfl)) rfl
set_option maxRecDepth 20000 in
theorem m_3_113 : (Jvm.Cond.code ({ cls := "DrawerGloves$Rows", name := "reaches", desc := "(III)Z" } : Jvm.MethodName) prog_11_method_6_code (5 : Nat) (Option.some Jvm.ClassFile.FieldType.boolean)) ∈ gtbl := mg (mm_3 (List.mem_of_getElem? (i := 113) rfl)) rfl
set_option maxRecDepth 20000 in
theorem m_3_114 : (Jvm.Cond.methodLink "DrawerGloves" (130 : Nat) ({ cls := "DrawerGloves$Rows", name := "move", desc := "(IIIII)V" } : Jvm.MethodName)) ∈ gtbl := mg (mm_3 (List.mem_of_getElem? (i := 114) rfl)) rfl
set_option maxRecDepth 20000 in
theorem m_3_115 : (Jvm.Cond.instanceMethod ({ cls := "DrawerGloves$Rows", name := "move", desc := "(IIIII)V" } : Jvm.MethodName)) ∈ gtbl := mg (mm_3 (List.mem_of_getElem? (i := 115) rfl)) rfl
set_option maxRecDepth 20000 in
theorem m_3_116 : (Jvm.Cond.selects "DrawerGloves$Rows" ({ cls := "DrawerGloves$Rows", name := "move", desc := "(IIIII)V" } : Jvm.MethodName) ({ cls := "DrawerGloves$Rows", name := "move", desc := "(IIIII)V" } : Jvm.MethodName)) ∈ gtbl := mg (mm_3 (List.mem_of_getElem? (i := 116) rfl)) rfl
set_option maxRecDepth 20000 in
theorem m_3_117 : (Jvm.Cond.code ({ cls := "DrawerGloves$Rows", name := "move", desc := "(IIIII)V" } : Jvm.MethodName) prog_11_method_11_code (6 : Nat) (Option.none : Option Jvm.ClassFile.FieldType)) ∈ gtbl := mg (mm_3 (List.mem_of_getElem? (i := 117) rfl)) rfl
set_option maxRecDepth 20000 in
theorem m_3_118 : (Jvm.Cond.methodLink "DrawerGloves$Rows" (45 : Nat) ({ cls := "DrawerGloves$Rows", name := "reaches", desc := "(III)Z" } : Jvm.MethodName)) ∈ gtbl := mg (mm_3 (List.mem_of_getElem? (i := 118) rfl)) rfl
set_option maxRecDepth 20000 in
theorem m_3_119 : (Jvm.Cond.methodLink "DrawerGloves$Rows" (49 : Nat) ({ cls := "java/lang/System", name := "arraycopy", desc := "(Ljava/lang/Object;ILjava/lang/Object;II)V" } : Jvm.MethodName)) ∈ gtbl := mg (mm_3 (List.mem_of_getElem? (i := 119) rfl)) rfl
set_option maxRecDepth 20000 in
theorem m_3_120 : (Jvm.Cond.static ({ cls := "java/lang/System", name := "arraycopy", desc := "(Ljava/lang/Object;ILjava/lang/Object;II)V" } : Jvm.MethodName)) ∈ gtbl := mg (mm_3 (List.mem_of_getElem? (i := 120) rfl)) rfl
set_option maxRecDepth 20000 in
theorem m_3_121 : (Jvm.Cond.native ({ cls := "java/lang/System", name := "arraycopy", desc := "(Ljava/lang/Object;ILjava/lang/Object;II)V" } : Jvm.MethodName)) ∈ gtbl := mg (mm_3 (List.mem_of_getElem? (i := 121) rfl)) rfl
set_option maxRecDepth 20000 in
theorem m_3_122 : (Jvm.Cond.methodLink "DrawerGlovesLaw" (30 : Nat) ({ cls := "DrawerGloves", name := "mean", desc := "(I)I" } : Jvm.MethodName)) ∈ gtbl := mg (mm_3 (List.mem_of_getElem? (i := 122) rfl)) rfl
set_option maxRecDepth 20000 in
theorem m_3_123 : (Jvm.Cond.instanceMethod ({ cls := "DrawerGloves", name := "mean", desc := "(I)I" } : Jvm.MethodName)) ∈ gtbl := mg (mm_3 (List.mem_of_getElem? (i := 123) rfl)) rfl
set_option maxRecDepth 20000 in
theorem m_3_124 : (Jvm.Cond.selects "DrawerGloves" ({ cls := "DrawerGloves", name := "mean", desc := "(I)I" } : Jvm.MethodName) ({ cls := "DrawerGloves", name := "mean", desc := "(I)I" } : Jvm.MethodName)) ∈ gtbl := mg (mm_3 (List.mem_of_getElem? (i := 124) rfl)) rfl
set_option maxRecDepth 20000 in
theorem m_3_125 : (Jvm.Cond.code ({ cls := "DrawerGloves", name := "mean", desc := "(I)I" } : Jvm.MethodName) prog_1_method_7_code (4 : Nat) (Option.some Jvm.ClassFile.FieldType.int)) ∈ gtbl := mg (mm_3 (List.mem_of_getElem? (i := 125) rfl)) rfl
set_option maxRecDepth 20000 in
theorem m_3_126 : (Jvm.Cond.methodLink "DrawerGloves" (134 : Nat) ({ cls := "DrawerGloves$Rows", name := "sizeOf", desc := "(I)I" } : Jvm.MethodName)) ∈ gtbl := mg (mm_3 (List.mem_of_getElem? (i := 126) rfl)) rfl
set_option maxRecDepth 20000 in
theorem m_3_127 : (Jvm.Cond.methodLink "DrawerGloves" (137 : Nat) ({ cls := "DrawerGloves$Rows", name := "total", desc := "(I)J" } : Jvm.MethodName)) ∈ gtbl := mg (mm_3 (List.mem_of_getElem? (i := 127) rfl)) rfl
set_option maxRecDepth 20000 in
theorem m_3_128 : (Jvm.Cond.instanceMethod ({ cls := "DrawerGloves$Rows", name := "total", desc := "(I)J" } : Jvm.MethodName)) ∈ gtbl := mg (mm_3 (List.mem_of_getElem? (i := 128) rfl)) rfl
set_option maxRecDepth 20000 in
theorem m_3_129 : (Jvm.Cond.selects "DrawerGloves$Rows" ({ cls := "DrawerGloves$Rows", name := "total", desc := "(I)J" } : Jvm.MethodName) ({ cls := "DrawerGloves$Rows", name := "total", desc := "(I)J" } : Jvm.MethodName)) ∈ gtbl := mg (mm_3 (List.mem_of_getElem? (i := 129) rfl)) rfl
set_option maxRecDepth 20000 in
theorem m_3_130 : (Jvm.Cond.code ({ cls := "DrawerGloves$Rows", name := "total", desc := "(I)J" } : Jvm.MethodName) prog_11_method_12_code (5 : Nat) (Option.some Jvm.ClassFile.FieldType.long)) ∈ gtbl := mg (mm_3 (List.mem_of_getElem? (i := 130) rfl)) rfl
set_option maxRecDepth 20000 in
theorem m_3_131 : (Jvm.Cond.methodLink "DrawerGlovesLaw" (33 : Nat) ({ cls := "DrawerGloves", name := "text", desc := "(II)I" } : Jvm.MethodName)) ∈ gtbl := mg (mm_3 (List.mem_of_getElem? (i := 131) rfl)) rfl
set_option maxRecDepth 20000 in
theorem m_3_132 : (Jvm.Cond.instanceMethod ({ cls := "DrawerGloves", name := "text", desc := "(II)I" } : Jvm.MethodName)) ∈ gtbl := mg (mm_3 (List.mem_of_getElem? (i := 132) rfl)) rfl
set_option maxRecDepth 20000 in
theorem m_3_133 : (Jvm.Cond.selects "DrawerGloves" ({ cls := "DrawerGloves", name := "text", desc := "(II)I" } : Jvm.MethodName) ({ cls := "DrawerGloves", name := "text", desc := "(II)I" } : Jvm.MethodName)) ∈ gtbl := mg (mm_3 (List.mem_of_getElem? (i := 133) rfl)) rfl
set_option maxRecDepth 20000 in
theorem m_3_134 : (Jvm.Cond.code ({ cls := "DrawerGloves", name := "text", desc := "(II)I" } : Jvm.MethodName) prog_1_method_8_code (3 : Nat) (Option.some Jvm.ClassFile.FieldType.int)) ∈ gtbl := mg (mm_3 (List.mem_of_getElem? (i := 134) rfl)) rfl
set_option maxRecDepth 20000 in
theorem m_3_135 : (Jvm.Cond.methodLink "DrawerGlovesLaw" (36 : Nat) ({ cls := "DrawerGloves", name := "put", desc := "(III)I" } : Jvm.MethodName)) ∈ gtbl := mg (mm_3 (List.mem_of_getElem? (i := 135) rfl)) rfl
set_option maxRecDepth 20000 in
theorem m_3_136 : (Jvm.Cond.instanceMethod ({ cls := "DrawerGloves", name := "put", desc := "(III)I" } : Jvm.MethodName)) ∈ gtbl := mg (mm_3 (List.mem_of_getElem? (i := 136) rfl)) rfl
set_option maxRecDepth 20000 in
theorem m_3_137 : (Jvm.Cond.selects "DrawerGloves" ({ cls := "DrawerGloves", name := "put", desc := "(III)I" } : Jvm.MethodName) ({ cls := "DrawerGloves", name := "put", desc := "(III)I" } : Jvm.MethodName)) ∈ gtbl := mg (mm_3 (List.mem_of_getElem? (i := 137) rfl)) rfl
set_option maxRecDepth 20000 in
theorem m_3_138 : (Jvm.Cond.code ({ cls := "DrawerGloves", name := "put", desc := "(III)I" } : Jvm.MethodName) prog_1_method_9_code (6 : Nat) (Option.some Jvm.ClassFile.FieldType.int)) ∈ gtbl := mg (mm_3 (List.mem_of_getElem? (i := 138) rfl)) rfl
set_option maxRecDepth 20000 in
theorem m_3_139 : (Jvm.Cond.methodLink "DrawerGloves" (141 : Nat) ({ cls := "DrawerGloves", name := "refusedText", desc := "(I)I" } : Jvm.MethodName)) ∈ gtbl := mg (mm_3 (List.mem_of_getElem? (i := 139) rfl)) rfl
set_option maxRecDepth 20000 in
theorem m_3_141 : (Jvm.Cond.instanceMethod ({ cls := "DrawerGloves", name := "refusedText", desc := "(I)I" } : Jvm.MethodName)) ∈ gtbl := mg (mm_3 (List.mem_of_getElem? (i := 141) rfl)) rfl
set_option maxRecDepth 20000 in
theorem m_3_142 : (Jvm.Cond.code ({ cls := "DrawerGloves", name := "refusedText", desc := "(I)I" } : Jvm.MethodName) prog_1_method_48_code (2 : Nat) (Option.some Jvm.ClassFile.FieldType.int)) ∈ gtbl := mg (mm_3 (List.mem_of_getElem? (i := 142) rfl)) rfl
set_option maxRecDepth 20000 in
theorem m_3_143 : (Jvm.Cond.methodLink "DrawerGlovesLaw" (39 : Nat) ({ cls := "DrawerGloves", name := "fault", desc := "(I)I" } : Jvm.MethodName)) ∈ gtbl := mg (mm_3 (List.mem_of_getElem? (i := 143) rfl)) rfl
set_option maxRecDepth 20000 in
theorem m_3_144 : (Jvm.Cond.instanceMethod ({ cls := "DrawerGloves", name := "fault", desc := "(I)I" } : Jvm.MethodName)) ∈ gtbl := mg (mm_3 (List.mem_of_getElem? (i := 144) rfl)) rfl
set_option maxRecDepth 20000 in
theorem m_3_145 : (Jvm.Cond.selects "DrawerGloves" ({ cls := "DrawerGloves", name := "fault", desc := "(I)I" } : Jvm.MethodName) ({ cls := "DrawerGloves", name := "fault", desc := "(I)I" } : Jvm.MethodName)) ∈ gtbl := mg (mm_3 (List.mem_of_getElem? (i := 145) rfl)) rfl
set_option maxRecDepth 20000 in
theorem m_3_146 : (Jvm.Cond.code ({ cls := "DrawerGloves", name := "fault", desc := "(I)I" } : Jvm.MethodName) prog_1_method_10_code (3 : Nat) (Option.some Jvm.ClassFile.FieldType.int)) ∈ gtbl := mg (mm_3 (List.mem_of_getElem? (i := 146) rfl)) rfl
set_option maxRecDepth 20000 in
theorem m_3_147 : (Jvm.Cond.methodLink "DrawerGloves" (148 : Nat) ({ cls := "DrawerGloves$Reading", name := "faultOf", desc := "(LDrawerGloves$Rows;I)I" } : Jvm.MethodName)) ∈ gtbl := mg (mm_3 (List.mem_of_getElem? (i := 147) rfl)) rfl
set_option maxRecDepth 20000 in
theorem m_3_148 : (Jvm.Cond.instanceMethod ({ cls := "DrawerGloves$Reading", name := "faultOf", desc := "(LDrawerGloves$Rows;I)I" } : Jvm.MethodName)) ∈ gtbl := mg (mm_3 (List.mem_of_getElem? (i := 148) rfl)) rfl
set_option maxRecDepth 20000 in
theorem m_3_149 : (Jvm.Cond.selects "DrawerGloves$Reading" ({ cls := "DrawerGloves$Reading", name := "faultOf", desc := "(LDrawerGloves$Rows;I)I" } : Jvm.MethodName) ({ cls := "DrawerGloves$Reading", name := "faultOf", desc := "(LDrawerGloves$Rows;I)I" } : Jvm.MethodName)) ∈ gtbl := mg (mm_3 (List.mem_of_getElem? (i := 149) rfl)) rfl
set_option maxRecDepth 20000 in
theorem m_3_150 : (Jvm.Cond.code ({ cls := "DrawerGloves$Reading", name := "faultOf", desc := "(LDrawerGloves$Rows;I)I" } : Jvm.MethodName) prog_9_method_2_code (6 : Nat) (Option.some Jvm.ClassFile.FieldType.int)) ∈ gtbl := mg (mm_3 (List.mem_of_getElem? (i := 150) rfl)) rfl
set_option maxRecDepth 20000 in
theorem m_3_151 : (Jvm.Cond.methodLink "DrawerGloves$Reading" (28 : Nat) ({ cls := "DrawerGloves$Rows", name := "sizeOf", desc := "(I)I" } : Jvm.MethodName)) ∈ gtbl := mg (mm_3 (List.mem_of_getElem? (i := 151) rfl)) rfl
set_option maxRecDepth 20000 in
theorem m_3_152 : (Jvm.Cond.methodLink "DrawerGloves$Reading" (34 : Nat) ({ cls := "DrawerGloves$Reading", name := "pastBlanks", desc := "(LDrawerGloves$Rows;II)I" } : Jvm.MethodName)) ∈ gtbl := mg (mm_3 (List.mem_of_getElem? (i := 152) rfl)) rfl
set_option maxRecDepth 20000 in
theorem m_3_153 : (Jvm.Cond.static ({ cls := "DrawerGloves$Reading", name := "pastBlanks", desc := "(LDrawerGloves$Rows;II)I" } : Jvm.MethodName)) ∈ gtbl := mg (mm_3 (List.mem_of_getElem? (i := 153) rfl)) rfl
set_option maxRecDepth 20000 in
theorem m_3_154 : (Jvm.Cond.code ({ cls := "DrawerGloves$Reading", name := "pastBlanks", desc := "(LDrawerGloves$Rows;II)I" } : Jvm.MethodName) prog_9_method_4_code (5 : Nat) (Option.some Jvm.ClassFile.FieldType.int)) ∈ gtbl := mg (mm_3 (List.mem_of_getElem? (i := 154) rfl)) rfl
set_option maxRecDepth 20000 in
theorem m_3_155 : (Jvm.Cond.methodLink "DrawerGloves$Reading" (38 : Nat) ({ cls := "DrawerGloves$Rows", name := "read", desc := "(II)I" } : Jvm.MethodName)) ∈ gtbl := mg (mm_3 (List.mem_of_getElem? (i := 155) rfl)) rfl
set_option maxRecDepth 20000 in
theorem m_3_156 : (Jvm.Cond.methodLink "DrawerGloves$Reading" (42 : Nat) ({ cls := "DrawerGloves$Reading", name := "figure", desc := "(LDrawerGloves$Rows;IIII)I" } : Jvm.MethodName)) ∈ gtbl := mg (mm_3 (List.mem_of_getElem? (i := 156) rfl)) rfl
set_option maxRecDepth 20000 in
theorem m_3_157 : (Jvm.Cond.static ({ cls := "DrawerGloves$Reading", name := "figure", desc := "(LDrawerGloves$Rows;IIII)I" } : Jvm.MethodName)) ∈ gtbl := mg (mm_3 (List.mem_of_getElem? (i := 157) rfl)) rfl
set_option maxRecDepth 20000 in
theorem m_3_158 : (Jvm.Cond.code ({ cls := "DrawerGloves$Reading", name := "figure", desc := "(LDrawerGloves$Rows;IIII)I" } : Jvm.MethodName) prog_9_method_5_code (6 : Nat) (Option.some Jvm.ClassFile.FieldType.int)) ∈ gtbl := mg (mm_3 (List.mem_of_getElem? (i := 158) rfl)) rfl
set_option maxRecDepth 20000 in
theorem m_3_159 : (Jvm.Cond.methodLink "DrawerGloves$Reading" (55 : Nat) ({ cls := "DrawerGloves$Rows", name := "holds", desc := "(II)Z" } : Jvm.MethodName)) ∈ gtbl := mg (mm_3 (List.mem_of_getElem? (i := 159) rfl)) rfl
set_option maxRecDepth 20000 in
theorem m_3_160 : (Jvm.Cond.methodLink "DrawerGloves$Reading" (49 : Nat) ({ cls := "DrawerGloves$Reading", name := "faultOfGlove", desc := "(LDrawerGloves$Rows;II)I" } : Jvm.MethodName)) ∈ gtbl := mg (mm_3 (List.mem_of_getElem? (i := 160) rfl)) rfl
set_option maxRecDepth 20000 in
theorem m_3_162 : (Jvm.Cond.instanceMethod ({ cls := "DrawerGloves$Reading", name := "faultOfGlove", desc := "(LDrawerGloves$Rows;II)I" } : Jvm.MethodName)) ∈ gtbl := mg (mm_3 (List.mem_of_getElem? (i := 162) rfl)) rfl
set_option maxRecDepth 20000 in
theorem m_3_163 : (Jvm.Cond.code ({ cls := "DrawerGloves$Reading", name := "faultOfGlove", desc := "(LDrawerGloves$Rows;II)I" } : Jvm.MethodName) prog_9_method_3_code (4 : Nat) (Option.some Jvm.ClassFile.FieldType.int)) ∈ gtbl := mg (mm_3 (List.mem_of_getElem? (i := 163) rfl)) rfl
set_option maxRecDepth 20000 in
theorem m_3_164 : (Jvm.Cond.methodLink "DrawerGloves$Reading" (52 : Nat) ({ cls := "DrawerGloves$Reading", name := "kindOf", desc := "(I)I" } : Jvm.MethodName)) ∈ gtbl := mg (mm_3 (List.mem_of_getElem? (i := 164) rfl)) rfl
set_option maxRecDepth 20000 in
theorem m_3_165 : (Jvm.Cond.static ({ cls := "DrawerGloves$Reading", name := "kindOf", desc := "(I)I" } : Jvm.MethodName)) ∈ gtbl := mg (mm_3 (List.mem_of_getElem? (i := 165) rfl)) rfl
set_option maxRecDepth 20000 in
theorem m_3_166 : (Jvm.Cond.code ({ cls := "DrawerGloves$Reading", name := "kindOf", desc := "(I)I" } : Jvm.MethodName) prog_9_method_6_code (1 : Nat) (Option.some Jvm.ClassFile.FieldType.int)) ∈ gtbl := mg (mm_3 (List.mem_of_getElem? (i := 166) rfl)) rfl
set_option maxRecDepth 20000 in
theorem m_3_167 : (Jvm.Cond.methodLink "DrawerGlovesLaw" (42 : Nat) ({ cls := "DrawerGloves", name := "drawer", desc := "(I)I" } : Jvm.MethodName)) ∈ gtbl := mg (mm_3 (List.mem_of_getElem? (i := 167) rfl)) rfl
set_option maxRecDepth 20000 in
theorem m_3_168 : (Jvm.Cond.instanceMethod ({ cls := "DrawerGloves", name := "drawer", desc := "(I)I" } : Jvm.MethodName)) ∈ gtbl := mg (mm_3 (List.mem_of_getElem? (i := 168) rfl)) rfl
set_option maxRecDepth 20000 in
theorem m_3_169 : (Jvm.Cond.selects "DrawerGloves" ({ cls := "DrawerGloves", name := "drawer", desc := "(I)I" } : Jvm.MethodName) ({ cls := "DrawerGloves", name := "drawer", desc := "(I)I" } : Jvm.MethodName)) ∈ gtbl := mg (mm_3 (List.mem_of_getElem? (i := 169) rfl)) rfl
set_option maxRecDepth 20000 in
theorem m_3_170 : (Jvm.Cond.code ({ cls := "DrawerGloves", name := "drawer", desc := "(I)I" } : Jvm.MethodName) prog_1_method_11_code (4 : Nat) (Option.some Jvm.ClassFile.FieldType.int)) ∈ gtbl := mg (mm_3 (List.mem_of_getElem? (i := 170) rfl)) rfl
set_option maxRecDepth 20000 in
theorem m_3_171 : (Jvm.Cond.methodLink "DrawerGloves" (152 : Nat) ({ cls := "DrawerGloves$Drawer", name := "fill", desc := "(LDrawerGloves$Reading;)V" } : Jvm.MethodName)) ∈ gtbl := mg (mm_3 (List.mem_of_getElem? (i := 171) rfl)) rfl
set_option maxRecDepth 20000 in
theorem m_3_172 : (Jvm.Cond.instanceMethod ({ cls := "DrawerGloves$Drawer", name := "fill", desc := "(LDrawerGloves$Reading;)V" } : Jvm.MethodName)) ∈ gtbl := mg (mm_3 (List.mem_of_getElem? (i := 172) rfl)) rfl
set_option maxRecDepth 20000 in
theorem m_3_173 : (Jvm.Cond.selects "DrawerGloves$Drawer" ({ cls := "DrawerGloves$Drawer", name := "fill", desc := "(LDrawerGloves$Reading;)V" } : Jvm.MethodName) ({ cls := "DrawerGloves$Drawer", name := "fill", desc := "(LDrawerGloves$Reading;)V" } : Jvm.MethodName)) ∈ gtbl := mg (mm_3 (List.mem_of_getElem? (i := 173) rfl)) rfl
set_option maxRecDepth 20000 in
theorem m_3_174 : (Jvm.Cond.code ({ cls := "DrawerGloves$Drawer", name := "fill", desc := "(LDrawerGloves$Reading;)V" } : Jvm.MethodName) prog_5_method_2_code (3 : Nat) (Option.none : Option Jvm.ClassFile.FieldType)) ∈ gtbl := mg (mm_3 (List.mem_of_getElem? (i := 174) rfl)) rfl
set_option maxRecDepth 20000 in
theorem m_3_175 : (Jvm.Cond.methodLink "DrawerGloves$Drawer" (58 : Nat) ({ cls := "DrawerGloves$Drawer", name := "replay", desc := "()V" } : Jvm.MethodName)) ∈ gtbl := mg (mm_3 (List.mem_of_getElem? (i := 175) rfl)) rfl
set_option maxRecDepth 20000 in
theorem m_3_176 : (Jvm.Cond.methodLink "DrawerGlovesLaw" (45 : Nat) ({ cls := "DrawerGloves", name := "glove", desc := "(II)I" } : Jvm.MethodName)) ∈ gtbl := mg (mm_3 (List.mem_of_getElem? (i := 176) rfl)) rfl
set_option maxRecDepth 20000 in
theorem m_3_177 : (Jvm.Cond.instanceMethod ({ cls := "DrawerGloves", name := "glove", desc := "(II)I" } : Jvm.MethodName)) ∈ gtbl := mg (mm_3 (List.mem_of_getElem? (i := 177) rfl)) rfl
set_option maxRecDepth 20000 in
theorem m_3_178 : (Jvm.Cond.selects "DrawerGloves" ({ cls := "DrawerGloves", name := "glove", desc := "(II)I" } : Jvm.MethodName) ({ cls := "DrawerGloves", name := "glove", desc := "(II)I" } : Jvm.MethodName)) ∈ gtbl := mg (mm_3 (List.mem_of_getElem? (i := 178) rfl)) rfl
set_option maxRecDepth 20000 in
theorem m_3_179 : (Jvm.Cond.code ({ cls := "DrawerGloves", name := "glove", desc := "(II)I" } : Jvm.MethodName) prog_1_method_12_code (3 : Nat) (Option.some Jvm.ClassFile.FieldType.int)) ∈ gtbl := mg (mm_3 (List.mem_of_getElem? (i := 179) rfl)) rfl
set_option maxRecDepth 20000 in
theorem m_3_180 : (Jvm.Cond.methodLink "DrawerGlovesLaw" (48 : Nat) ({ cls := "DrawerGloves", name := "mark", desc := "(II)I" } : Jvm.MethodName)) ∈ gtbl := mg (mm_3 (List.mem_of_getElem? (i := 180) rfl)) rfl
set_option maxRecDepth 20000 in
theorem m_3_181 : (Jvm.Cond.instanceMethod ({ cls := "DrawerGloves", name := "mark", desc := "(II)I" } : Jvm.MethodName)) ∈ gtbl := mg (mm_3 (List.mem_of_getElem? (i := 181) rfl)) rfl
set_option maxRecDepth 20000 in
theorem m_3_182 : (Jvm.Cond.selects "DrawerGloves" ({ cls := "DrawerGloves", name := "mark", desc := "(II)I" } : Jvm.MethodName) ({ cls := "DrawerGloves", name := "mark", desc := "(II)I" } : Jvm.MethodName)) ∈ gtbl := mg (mm_3 (List.mem_of_getElem? (i := 182) rfl)) rfl
set_option maxRecDepth 20000 in
theorem m_3_183 : (Jvm.Cond.code ({ cls := "DrawerGloves", name := "mark", desc := "(II)I" } : Jvm.MethodName) prog_1_method_13_code (3 : Nat) (Option.some Jvm.ClassFile.FieldType.int)) ∈ gtbl := mg (mm_3 (List.mem_of_getElem? (i := 183) rfl)) rfl
set_option maxRecDepth 20000 in
theorem m_3_184 : (Jvm.Cond.methodLink "DrawerGloves" (169 : Nat) ({ cls := "DrawerGloves$Glove", name := "isOf", desc := "(I)Z" } : Jvm.MethodName)) ∈ gtbl := mg (mm_3 (List.mem_of_getElem? (i := 184) rfl)) rfl
set_option maxRecDepth 20000 in
theorem m_3_185 : (Jvm.Cond.methodLink "DrawerGloves" (172 : Nat) ({ cls := "DrawerGloves$Glove", name := "warmth", desc := "()I" } : Jvm.MethodName)) ∈ gtbl := mg (mm_3 (List.mem_of_getElem? (i := 185) rfl)) rfl
set_option maxRecDepth 20000 in
theorem m_3_186 : (Jvm.Cond.methodLink "DrawerGloves" (176 : Nat) ({ cls := "DrawerGloves$Glove", name := "bareWarmth", desc := "()I" } : Jvm.MethodName)) ∈ gtbl := mg (mm_3 (List.mem_of_getElem? (i := 186) rfl)) rfl
set_option maxRecDepth 20000 in
theorem m_3_187 : (Jvm.Cond.methodLink "DrawerGloves" (179 : Nat) ({ cls := "DrawerGloves$Drawer", name := "matesOf", desc := "(I)I" } : Jvm.MethodName)) ∈ gtbl := mg (mm_3 (List.mem_of_getElem? (i := 187) rfl)) rfl
set_option maxRecDepth 20000 in
theorem m_3_188 : (Jvm.Cond.instanceMethod ({ cls := "DrawerGloves$Drawer", name := "matesOf", desc := "(I)I" } : Jvm.MethodName)) ∈ gtbl := mg (mm_3 (List.mem_of_getElem? (i := 188) rfl)) rfl
set_option maxRecDepth 20000 in
theorem m_3_189 : (Jvm.Cond.selects "DrawerGloves$Drawer" ({ cls := "DrawerGloves$Drawer", name := "matesOf", desc := "(I)I" } : Jvm.MethodName) ({ cls := "DrawerGloves$Drawer", name := "matesOf", desc := "(I)I" } : Jvm.MethodName)) ∈ gtbl := mg (mm_3 (List.mem_of_getElem? (i := 189) rfl)) rfl
set_option maxRecDepth 20000 in
theorem m_3_190 : (Jvm.Cond.code ({ cls := "DrawerGloves$Drawer", name := "matesOf", desc := "(I)I" } : Jvm.MethodName) prog_5_method_12_code (4 : Nat) (Option.some Jvm.ClassFile.FieldType.int)) ∈ gtbl := mg (mm_3 (List.mem_of_getElem? (i := 190) rfl)) rfl
set_option maxRecDepth 20000 in
theorem m_3_191 : (Jvm.Cond.methodLink "DrawerGloves" (182 : Nat) ({ cls := "DrawerGloves$Drawer", name := "sameSortAs", desc := "(I)I" } : Jvm.MethodName)) ∈ gtbl := mg (mm_3 (List.mem_of_getElem? (i := 191) rfl)) rfl
set_option maxRecDepth 20000 in
theorem m_3_192 : (Jvm.Cond.instanceMethod ({ cls := "DrawerGloves$Drawer", name := "sameSortAs", desc := "(I)I" } : Jvm.MethodName)) ∈ gtbl := mg (mm_3 (List.mem_of_getElem? (i := 192) rfl)) rfl
set_option maxRecDepth 20000 in
theorem m_3_193 : (Jvm.Cond.selects "DrawerGloves$Drawer" ({ cls := "DrawerGloves$Drawer", name := "sameSortAs", desc := "(I)I" } : Jvm.MethodName) ({ cls := "DrawerGloves$Drawer", name := "sameSortAs", desc := "(I)I" } : Jvm.MethodName)) ∈ gtbl := mg (mm_3 (List.mem_of_getElem? (i := 193) rfl)) rfl
set_option maxRecDepth 20000 in
theorem m_3_194 : (Jvm.Cond.code ({ cls := "DrawerGloves$Drawer", name := "sameSortAs", desc := "(I)I" } : Jvm.MethodName) prog_5_method_13_code (4 : Nat) (Option.some Jvm.ClassFile.FieldType.int)) ∈ gtbl := mg (mm_3 (List.mem_of_getElem? (i := 194) rfl)) rfl
set_option maxRecDepth 20000 in
theorem m_3_195 : (Jvm.Cond.methodLink "DrawerGloves" (188 : Nat) ({ cls := "java/lang/Math", name := "max", desc := "(II)I" } : Jvm.MethodName)) ∈ gtbl := mg (mm_3 (List.mem_of_getElem? (i := 195) rfl)) rfl
set_option maxRecDepth 20000 in
theorem m_3_196 : (Jvm.Cond.methodLink "DrawerGloves" (193 : Nat) ({ cls := "DrawerGloves$Guess", name := "gainOfStretch", desc := "(LDrawerGloves$Drawer;I)I" } : Jvm.MethodName)) ∈ gtbl := mg (mm_3 (List.mem_of_getElem? (i := 196) rfl)) rfl
set_option maxRecDepth 20000 in
theorem m_3_197 : (Jvm.Cond.instanceMethod ({ cls := "DrawerGloves$Guess", name := "gainOfStretch", desc := "(LDrawerGloves$Drawer;I)I" } : Jvm.MethodName)) ∈ gtbl := mg (mm_3 (List.mem_of_getElem? (i := 197) rfl)) rfl
set_option maxRecDepth 20000 in
theorem m_3_198 : (Jvm.Cond.selects "DrawerGloves$Guess" ({ cls := "DrawerGloves$Guess", name := "gainOfStretch", desc := "(LDrawerGloves$Drawer;I)I" } : Jvm.MethodName) ({ cls := "DrawerGloves$Guess", name := "gainOfStretch", desc := "(LDrawerGloves$Drawer;I)I" } : Jvm.MethodName)) ∈ gtbl := mg (mm_3 (List.mem_of_getElem? (i := 198) rfl)) rfl
set_option maxRecDepth 20000 in
theorem m_3_199 : (Jvm.Cond.code ({ cls := "DrawerGloves$Guess", name := "gainOfStretch", desc := "(LDrawerGloves$Drawer;I)I" } : Jvm.MethodName) prog_7_method_10_code (5 : Nat) (Option.some Jvm.ClassFile.FieldType.int)) ∈ gtbl := mg (mm_3 (List.mem_of_getElem? (i := 199) rfl)) rfl
set_option maxRecDepth 20000 in
theorem m_3_200 : (Jvm.Cond.methodLink "DrawerGloves$Guess" (46 : Nat) ({ cls := "DrawerGloves$Glove", name := "becomeLike", desc := "(LDrawerGloves$Glove;)V" } : Jvm.MethodName)) ∈ gtbl := mg (mm_3 (List.mem_of_getElem? (i := 200) rfl)) rfl
set_option maxRecDepth 20000 in
theorem m_3_201 : (Jvm.Cond.instanceMethod ({ cls := "DrawerGloves$Glove", name := "becomeLike", desc := "(LDrawerGloves$Glove;)V" } : Jvm.MethodName)) ∈ gtbl := mg (mm_3 (List.mem_of_getElem? (i := 201) rfl)) rfl
set_option maxRecDepth 20000 in
theorem m_3_202 : (Jvm.Cond.selects "DrawerGloves$Glove" ({ cls := "DrawerGloves$Glove", name := "becomeLike", desc := "(LDrawerGloves$Glove;)V" } : Jvm.MethodName) ({ cls := "DrawerGloves$Glove", name := "becomeLike", desc := "(LDrawerGloves$Glove;)V" } : Jvm.MethodName)) ∈ gtbl := mg (mm_3 (List.mem_of_getElem? (i := 202) rfl)) rfl
set_option maxRecDepth 20000 in
theorem m_3_203 : (Jvm.Cond.code ({ cls := "DrawerGloves$Glove", name := "becomeLike", desc := "(LDrawerGloves$Glove;)V" } : Jvm.MethodName) prog_6_method_2_code (2 : Nat) (Option.none : Option Jvm.ClassFile.FieldType)) ∈ gtbl := mg (mm_3 (List.mem_of_getElem? (i := 203) rfl)) rfl
set_option maxRecDepth 20000 in
theorem m_3_204 : (Jvm.Cond.methodLink "DrawerGloves$Guess" (79 : Nat) ({ cls := "DrawerGloves$Drawer", name := "isInside", desc := "(I)Z" } : Jvm.MethodName)) ∈ gtbl := mg (mm_3 (List.mem_of_getElem? (i := 204) rfl)) rfl
set_option maxRecDepth 20000 in
theorem m_3_205 : (Jvm.Cond.methodLink "DrawerGloves$Guess" (42 : Nat) ({ cls := "DrawerGloves$Glove", name := "goodWith", desc := "(LDrawerGloves$Glove;)I" } : Jvm.MethodName)) ∈ gtbl := mg (mm_3 (List.mem_of_getElem? (i := 205) rfl)) rfl
set_option maxRecDepth 20000 in
theorem m_3_206 : (Jvm.Cond.methodLink "DrawerGlovesLaw" (51 : Nat) ({ cls := "DrawerGloves", name := "pair", desc := "(II)I" } : Jvm.MethodName)) ∈ gtbl := mg (mm_3 (List.mem_of_getElem? (i := 206) rfl)) rfl
set_option maxRecDepth 20000 in
theorem m_3_207 : (Jvm.Cond.instanceMethod ({ cls := "DrawerGloves", name := "pair", desc := "(II)I" } : Jvm.MethodName)) ∈ gtbl := mg (mm_3 (List.mem_of_getElem? (i := 207) rfl)) rfl
set_option maxRecDepth 20000 in
theorem m_3_208 : (Jvm.Cond.selects "DrawerGloves" ({ cls := "DrawerGloves", name := "pair", desc := "(II)I" } : Jvm.MethodName) ({ cls := "DrawerGloves", name := "pair", desc := "(II)I" } : Jvm.MethodName)) ∈ gtbl := mg (mm_3 (List.mem_of_getElem? (i := 208) rfl)) rfl
set_option maxRecDepth 20000 in
theorem m_3_209 : (Jvm.Cond.code ({ cls := "DrawerGloves", name := "pair", desc := "(II)I" } : Jvm.MethodName) prog_1_method_14_code (3 : Nat) (Option.some Jvm.ClassFile.FieldType.int)) ∈ gtbl := mg (mm_3 (List.mem_of_getElem? (i := 209) rfl)) rfl
set_option maxRecDepth 20000 in
theorem m_3_210 : (Jvm.Cond.methodLink "DrawerGlovesLaw" (60 : Nat) ({ cls := "DrawerGloves", name := "back", desc := "(I)I" } : Jvm.MethodName)) ∈ gtbl := mg (mm_3 (List.mem_of_getElem? (i := 210) rfl)) rfl
set_option maxRecDepth 20000 in
theorem m_3_211 : (Jvm.Cond.instanceMethod ({ cls := "DrawerGloves", name := "back", desc := "(I)I" } : Jvm.MethodName)) ∈ gtbl := mg (mm_3 (List.mem_of_getElem? (i := 211) rfl)) rfl
set_option maxRecDepth 20000 in
theorem m_3_212 : (Jvm.Cond.selects "DrawerGloves" ({ cls := "DrawerGloves", name := "back", desc := "(I)I" } : Jvm.MethodName) ({ cls := "DrawerGloves", name := "back", desc := "(I)I" } : Jvm.MethodName)) ∈ gtbl := mg (mm_3 (List.mem_of_getElem? (i := 212) rfl)) rfl
set_option maxRecDepth 20000 in
theorem m_3_213 : (Jvm.Cond.code ({ cls := "DrawerGloves", name := "back", desc := "(I)I" } : Jvm.MethodName) prog_1_method_17_code (2 : Nat) (Option.some Jvm.ClassFile.FieldType.int)) ∈ gtbl := mg (mm_3 (List.mem_of_getElem? (i := 213) rfl)) rfl
set_option maxRecDepth 20000 in
theorem m_3_214 : (Jvm.Cond.methodLink "DrawerGloves" (223 : Nat) ({ cls := "DrawerGloves$Drawer", name := "hasRoom", desc := "()Z" } : Jvm.MethodName)) ∈ gtbl := mg (mm_3 (List.mem_of_getElem? (i := 214) rfl)) rfl
set_option maxRecDepth 20000 in
theorem m_3_215 : (Jvm.Cond.methodLink "DrawerGlovesLaw" (75 : Nat) ({ cls := "DrawerGloves", name := "good", desc := "(I)I" } : Jvm.MethodName)) ∈ gtbl := mg (mm_3 (List.mem_of_getElem? (i := 215) rfl)) rfl
set_option maxRecDepth 20000 in
theorem m_3_216 : (Jvm.Cond.instanceMethod ({ cls := "DrawerGloves", name := "good", desc := "(I)I" } : Jvm.MethodName)) ∈ gtbl := mg (mm_3 (List.mem_of_getElem? (i := 216) rfl)) rfl
set_option maxRecDepth 20000 in
theorem m_3_217 : (Jvm.Cond.selects "DrawerGloves" ({ cls := "DrawerGloves", name := "good", desc := "(I)I" } : Jvm.MethodName) ({ cls := "DrawerGloves", name := "good", desc := "(I)I" } : Jvm.MethodName)) ∈ gtbl := mg (mm_3 (List.mem_of_getElem? (i := 217) rfl)) rfl
set_option maxRecDepth 20000 in
theorem m_3_218 : (Jvm.Cond.code ({ cls := "DrawerGloves", name := "good", desc := "(I)I" } : Jvm.MethodName) prog_1_method_22_code (2 : Nat) (Option.some Jvm.ClassFile.FieldType.int)) ∈ gtbl := mg (mm_3 (List.mem_of_getElem? (i := 218) rfl)) rfl
set_option maxRecDepth 20000 in
theorem m_3_219 : (Jvm.Cond.methodLink "DrawerGloves" (234 : Nat) ({ cls := "DrawerGloves$Drawer", name := "isSet", desc := "(I)Z" } : Jvm.MethodName)) ∈ gtbl := mg (mm_3 (List.mem_of_getElem? (i := 219) rfl)) rfl
set_option maxRecDepth 20000 in
theorem m_3_220 : (Jvm.Cond.instanceMethod ({ cls := "DrawerGloves$Drawer", name := "isSet", desc := "(I)Z" } : Jvm.MethodName)) ∈ gtbl := mg (mm_3 (List.mem_of_getElem? (i := 220) rfl)) rfl
set_option maxRecDepth 20000 in
theorem m_3_221 : (Jvm.Cond.selects "DrawerGloves$Drawer" ({ cls := "DrawerGloves$Drawer", name := "isSet", desc := "(I)Z" } : Jvm.MethodName) ({ cls := "DrawerGloves$Drawer", name := "isSet", desc := "(I)Z" } : Jvm.MethodName)) ∈ gtbl := mg (mm_3 (List.mem_of_getElem? (i := 221) rfl)) rfl
set_option maxRecDepth 20000 in
theorem m_3_222 : (Jvm.Cond.code ({ cls := "DrawerGloves$Drawer", name := "isSet", desc := "(I)Z" } : Jvm.MethodName) prog_5_method_4_code (2 : Nat) (Option.some Jvm.ClassFile.FieldType.boolean)) ∈ gtbl := mg (mm_3 (List.mem_of_getElem? (i := 222) rfl)) rfl
set_option maxRecDepth 20000 in
theorem m_3_223 : (Jvm.Cond.methodLink "DrawerGlovesLaw" (78 : Nat) ({ cls := "DrawerGloves", name := "pairs", desc := "(I)I" } : Jvm.MethodName)) ∈ gtbl := mg (mm_3 (List.mem_of_getElem? (i := 223) rfl)) rfl
set_option maxRecDepth 20000 in
theorem m_3_224 : (Jvm.Cond.instanceMethod ({ cls := "DrawerGloves", name := "pairs", desc := "(I)I" } : Jvm.MethodName)) ∈ gtbl := mg (mm_3 (List.mem_of_getElem? (i := 224) rfl)) rfl
set_option maxRecDepth 20000 in
theorem m_3_225 : (Jvm.Cond.selects "DrawerGloves" ({ cls := "DrawerGloves", name := "pairs", desc := "(I)I" } : Jvm.MethodName) ({ cls := "DrawerGloves", name := "pairs", desc := "(I)I" } : Jvm.MethodName)) ∈ gtbl := mg (mm_3 (List.mem_of_getElem? (i := 225) rfl)) rfl
set_option maxRecDepth 20000 in
theorem m_3_226 : (Jvm.Cond.code ({ cls := "DrawerGloves", name := "pairs", desc := "(I)I" } : Jvm.MethodName) prog_1_method_23_code (2 : Nat) (Option.some Jvm.ClassFile.FieldType.int)) ∈ gtbl := mg (mm_3 (List.mem_of_getElem? (i := 226) rfl)) rfl
set_option maxRecDepth 20000 in
theorem m_3_227 : (Jvm.Cond.methodLink "DrawerGloves" (247 : Nat) ({ cls := "DrawerGloves$Makings", name := "partTo", desc := "(LDrawerGloves$Drawer;LDrawerGloves$Rows;I)V" } : Jvm.MethodName)) ∈ gtbl := mg (mm_3 (List.mem_of_getElem? (i := 227) rfl)) rfl
set_option maxRecDepth 20000 in
theorem m_3_228 : (Jvm.Cond.instanceMethod ({ cls := "DrawerGloves$Makings", name := "partTo", desc := "(LDrawerGloves$Drawer;LDrawerGloves$Rows;I)V" } : Jvm.MethodName)) ∈ gtbl := mg (mm_3 (List.mem_of_getElem? (i := 228) rfl)) rfl
set_option maxRecDepth 20000 in
theorem m_3_229 : (Jvm.Cond.selects "DrawerGloves$Makings" ({ cls := "DrawerGloves$Makings", name := "partTo", desc := "(LDrawerGloves$Drawer;LDrawerGloves$Rows;I)V" } : Jvm.MethodName) ({ cls := "DrawerGloves$Makings", name := "partTo", desc := "(LDrawerGloves$Drawer;LDrawerGloves$Rows;I)V" } : Jvm.MethodName)) ∈ gtbl := mg (mm_3 (List.mem_of_getElem? (i := 229) rfl)) rfl
set_option maxRecDepth 20000 in
theorem m_3_230 : (Jvm.Cond.code ({ cls := "DrawerGloves$Makings", name := "partTo", desc := "(LDrawerGloves$Drawer;LDrawerGloves$Rows;I)V" } : Jvm.MethodName) prog_8_method_4_code (7 : Nat) (Option.none : Option Jvm.ClassFile.FieldType)) ∈ gtbl := mg (mm_3 (List.mem_of_getElem? (i := 230) rfl)) rfl
set_option maxRecDepth 20000 in
theorem m_3_231 : (Jvm.Cond.methodLink "DrawerGloves$Makings" (50 : Nat) ({ cls := "DrawerGloves$Rows", name := "begin", desc := "(II)V" } : Jvm.MethodName)) ∈ gtbl := mg (mm_3 (List.mem_of_getElem? (i := 231) rfl)) rfl
set_option maxRecDepth 20000 in
theorem m_3_232 : (Jvm.Cond.methodLink "DrawerGloves$Makings" (55 : Nat) ({ cls := "DrawerGloves$Rows", name := "write", desc := "(III)V" } : Jvm.MethodName)) ∈ gtbl := mg (mm_3 (List.mem_of_getElem? (i := 232) rfl)) rfl
set_option maxRecDepth 20000 in
theorem m_3_233 : (Jvm.Cond.methodLink "DrawerGloves$Makings" (63 : Nat) ({ cls := "DrawerGloves$Makings", name := "firstMate", desc := "(LDrawerGloves$Drawer;II)I" } : Jvm.MethodName)) ∈ gtbl := mg (mm_3 (List.mem_of_getElem? (i := 233) rfl)) rfl
set_option maxRecDepth 20000 in
theorem m_3_235 : (Jvm.Cond.instanceMethod ({ cls := "DrawerGloves$Makings", name := "firstMate", desc := "(LDrawerGloves$Drawer;II)I" } : Jvm.MethodName)) ∈ gtbl := mg (mm_3 (List.mem_of_getElem? (i := 235) rfl)) rfl
set_option maxRecDepth 20000 in
theorem m_3_236 : (Jvm.Cond.code ({ cls := "DrawerGloves$Makings", name := "firstMate", desc := "(LDrawerGloves$Drawer;II)I" } : Jvm.MethodName) prog_8_method_5_code (7 : Nat) (Option.some Jvm.ClassFile.FieldType.int)) ∈ gtbl := mg (mm_3 (List.mem_of_getElem? (i := 236) rfl)) rfl
set_option maxRecDepth 20000 in
theorem m_3_237 : (Jvm.Cond.methodLink "DrawerGlovesLaw" (81 : Nat) ({ cls := "DrawerGloves", name := "days", desc := "(II)I" } : Jvm.MethodName)) ∈ gtbl := mg (mm_3 (List.mem_of_getElem? (i := 237) rfl)) rfl
set_option maxRecDepth 20000 in
theorem m_3_238 : (Jvm.Cond.instanceMethod ({ cls := "DrawerGloves", name := "days", desc := "(II)I" } : Jvm.MethodName)) ∈ gtbl := mg (mm_3 (List.mem_of_getElem? (i := 238) rfl)) rfl
set_option maxRecDepth 20000 in
theorem m_3_239 : (Jvm.Cond.selects "DrawerGloves" ({ cls := "DrawerGloves", name := "days", desc := "(II)I" } : Jvm.MethodName) ({ cls := "DrawerGloves", name := "days", desc := "(II)I" } : Jvm.MethodName)) ∈ gtbl := mg (mm_3 (List.mem_of_getElem? (i := 239) rfl)) rfl
set_option maxRecDepth 20000 in
theorem m_4_0 : (Jvm.Cond.code ({ cls := "DrawerGloves", name := "days", desc := "(II)I" } : Jvm.MethodName) prog_1_method_26_code (3 : Nat) (Option.some Jvm.ClassFile.FieldType.int)) ∈ gtbl := mg (mm_4 (List.mem_of_getElem? (i := 0) rfl)) rfl
set_option maxRecDepth 20000 in
theorem m_4_1 : (Jvm.Cond.methodLink "DrawerGloves" (257 : Nat) ({ cls := "DrawerGloves$Calendar", name := "plan", desc := "(LDrawerGloves$Drawer;ILDrawerGloves$Rows;I)I" } : Jvm.MethodName)) ∈ gtbl := mg (mm_4 (List.mem_of_getElem? (i := 1) rfl)) rfl
set_option maxRecDepth 20000 in
theorem m_4_2 : (Jvm.Cond.instanceMethod ({ cls := "DrawerGloves$Calendar", name := "plan", desc := "(LDrawerGloves$Drawer;ILDrawerGloves$Rows;I)I" } : Jvm.MethodName)) ∈ gtbl := mg (mm_4 (List.mem_of_getElem? (i := 2) rfl)) rfl
set_option maxRecDepth 20000 in
theorem m_4_3 : (Jvm.Cond.selects "DrawerGloves$Calendar" ({ cls := "DrawerGloves$Calendar", name := "plan", desc := "(LDrawerGloves$Drawer;ILDrawerGloves$Rows;I)I" } : Jvm.MethodName) ({ cls := "DrawerGloves$Calendar", name := "plan", desc := "(LDrawerGloves$Drawer;ILDrawerGloves$Rows;I)I" } : Jvm.MethodName)) ∈ gtbl := mg (mm_4 (List.mem_of_getElem? (i := 3) rfl)) rfl
set_option maxRecDepth 20000 in
theorem m_4_4 : (Jvm.Cond.code ({ cls := "DrawerGloves$Calendar", name := "plan", desc := "(LDrawerGloves$Drawer;ILDrawerGloves$Rows;I)I" } : Jvm.MethodName) prog_2_method_2_code (6 : Nat) (Option.some Jvm.ClassFile.FieldType.int)) ∈ gtbl := mg (mm_4 (List.mem_of_getElem? (i := 4) rfl)) rfl
set_option maxRecDepth 20000 in
theorem m_4_5 : (Jvm.Cond.methodLink "DrawerGloves$Calendar" (28 : Nat) ({ cls := "DrawerGloves$Calendar", name := "gather", desc := "(LDrawerGloves$Drawer;)V" } : Jvm.MethodName)) ∈ gtbl := mg (mm_4 (List.mem_of_getElem? (i := 5) rfl)) rfl
set_option maxRecDepth 20000 in
theorem m_4_7 : (Jvm.Cond.instanceMethod ({ cls := "DrawerGloves$Calendar", name := "gather", desc := "(LDrawerGloves$Drawer;)V" } : Jvm.MethodName)) ∈ gtbl := mg (mm_4 (List.mem_of_getElem? (i := 7) rfl)) rfl
set_option maxRecDepth 20000 in
theorem m_4_8 : (Jvm.Cond.code ({ cls := "DrawerGloves$Calendar", name := "gather", desc := "(LDrawerGloves$Drawer;)V" } : Jvm.MethodName) prog_2_method_3_code (5 : Nat) (Option.none : Option Jvm.ClassFile.FieldType)) ∈ gtbl := mg (mm_4 (List.mem_of_getElem? (i := 8) rfl)) rfl
set_option maxRecDepth 20000 in
theorem m_4_9 : (Jvm.Cond.methodLink "DrawerGloves$Calendar" (58 : Nat) ({ cls := "DrawerGloves$Glove", name := "becomeLike", desc := "(LDrawerGloves$Glove;)V" } : Jvm.MethodName)) ∈ gtbl := mg (mm_4 (List.mem_of_getElem? (i := 9) rfl)) rfl
set_option maxRecDepth 20000 in
theorem m_4_10 : (Jvm.Cond.methodLink "DrawerGloves$Calendar" (67 : Nat) ({ cls := "DrawerGloves$Glove", name := "goodWith", desc := "(LDrawerGloves$Glove;)I" } : Jvm.MethodName)) ∈ gtbl := mg (mm_4 (List.mem_of_getElem? (i := 10) rfl)) rfl
set_option maxRecDepth 20000 in
theorem m_4_11 : (Jvm.Cond.methodLink "DrawerGloves$Calendar" (71 : Nat) ({ cls := "DrawerGloves$Drawer", name := "isInside", desc := "(I)Z" } : Jvm.MethodName)) ∈ gtbl := mg (mm_4 (List.mem_of_getElem? (i := 11) rfl)) rfl
set_option maxRecDepth 20000 in
theorem m_4_12 : (Jvm.Cond.methodLink "DrawerGloves$Calendar" (75 : Nat) ({ cls := "java/lang/Math", name := "max", desc := "(II)I" } : Jvm.MethodName)) ∈ gtbl := mg (mm_4 (List.mem_of_getElem? (i := 12) rfl)) rfl
set_option maxRecDepth 20000 in
theorem m_4_13 : (Jvm.Cond.methodLink "DrawerGloves$Calendar" (39 : Nat) ({ cls := "DrawerGloves$Calendar", name := "search", desc := "(LDrawerGloves$Calendar;III)V" } : Jvm.MethodName)) ∈ gtbl := mg (mm_4 (List.mem_of_getElem? (i := 13) rfl)) rfl
set_option maxRecDepth 20000 in
theorem m_4_14 : (Jvm.Cond.static ({ cls := "DrawerGloves$Calendar", name := "search", desc := "(LDrawerGloves$Calendar;III)V" } : Jvm.MethodName)) ∈ gtbl := mg (mm_4 (List.mem_of_getElem? (i := 14) rfl)) rfl
set_option maxRecDepth 20000 in
theorem m_4_15 : (Jvm.Cond.code ({ cls := "DrawerGloves$Calendar", name := "search", desc := "(LDrawerGloves$Calendar;III)V" } : Jvm.MethodName) prog_2_method_4_code (8 : Nat) (Option.none : Option Jvm.ClassFile.FieldType)) ∈ gtbl := mg (mm_4 (List.mem_of_getElem? (i := 15) rfl)) rfl
set_option maxRecDepth 20000 in
theorem m_4_16 : (Jvm.Cond.methodLink "DrawerGloves$Calendar" (43 : Nat) ({ cls := "DrawerGloves$Rows", name := "begin", desc := "(II)V" } : Jvm.MethodName)) ∈ gtbl := mg (mm_4 (List.mem_of_getElem? (i := 16) rfl)) rfl
set_option maxRecDepth 20000 in
theorem m_4_17 : (Jvm.Cond.methodLink "DrawerGloves$Calendar" (49 : Nat) ({ cls := "DrawerGloves$Rows", name := "write", desc := "(III)V" } : Jvm.MethodName)) ∈ gtbl := mg (mm_4 (List.mem_of_getElem? (i := 17) rfl)) rfl
set_option maxRecDepth 20000 in
theorem m_4_18 : (Jvm.Cond.methodLink "DrawerGlovesLaw" (84 : Nat) ({ cls := "DrawerGloves", name := "join", desc := "(II)I" } : Jvm.MethodName)) ∈ gtbl := mg (mm_4 (List.mem_of_getElem? (i := 18) rfl)) rfl
set_option maxRecDepth 20000 in
theorem m_4_19 : (Jvm.Cond.instanceMethod ({ cls := "DrawerGloves", name := "join", desc := "(II)I" } : Jvm.MethodName)) ∈ gtbl := mg (mm_4 (List.mem_of_getElem? (i := 19) rfl)) rfl
set_option maxRecDepth 20000 in
theorem m_4_20 : (Jvm.Cond.selects "DrawerGloves" ({ cls := "DrawerGloves", name := "join", desc := "(II)I" } : Jvm.MethodName) ({ cls := "DrawerGloves", name := "join", desc := "(II)I" } : Jvm.MethodName)) ∈ gtbl := mg (mm_4 (List.mem_of_getElem? (i := 20) rfl)) rfl
set_option maxRecDepth 20000 in
theorem m_4_21 : (Jvm.Cond.code ({ cls := "DrawerGloves", name := "join", desc := "(II)I" } : Jvm.MethodName) prog_1_method_28_code (3 : Nat) (Option.some Jvm.ClassFile.FieldType.int)) ∈ gtbl := mg (mm_4 (List.mem_of_getElem? (i := 21) rfl)) rfl
set_option maxRecDepth 20000 in
theorem m_4_22 : (Jvm.Cond.methodLink "DrawerGlovesLaw" (87 : Nat) ({ cls := "DrawerGloves", name := "sorts", desc := "(II)I" } : Jvm.MethodName)) ∈ gtbl := mg (mm_4 (List.mem_of_getElem? (i := 22) rfl)) rfl
set_option maxRecDepth 20000 in
theorem m_4_23 : (Jvm.Cond.instanceMethod ({ cls := "DrawerGloves", name := "sorts", desc := "(II)I" } : Jvm.MethodName)) ∈ gtbl := mg (mm_4 (List.mem_of_getElem? (i := 23) rfl)) rfl
set_option maxRecDepth 20000 in
theorem m_4_24 : (Jvm.Cond.selects "DrawerGloves" ({ cls := "DrawerGloves", name := "sorts", desc := "(II)I" } : Jvm.MethodName) ({ cls := "DrawerGloves", name := "sorts", desc := "(II)I" } : Jvm.MethodName)) ∈ gtbl := mg (mm_4 (List.mem_of_getElem? (i := 24) rfl)) rfl
set_option maxRecDepth 20000 in
theorem m_4_25 : (Jvm.Cond.code ({ cls := "DrawerGloves", name := "sorts", desc := "(II)I" } : Jvm.MethodName) prog_1_method_29_code (4 : Nat) (Option.some Jvm.ClassFile.FieldType.int)) ∈ gtbl := mg (mm_4 (List.mem_of_getElem? (i := 25) rfl)) rfl
set_option maxRecDepth 20000 in
theorem m_4_26 : (Jvm.Cond.methodLink "DrawerGloves" (268 : Nat) ({ cls := "DrawerGloves", name := "refusedGuess", desc := "(II)I" } : Jvm.MethodName)) ∈ gtbl := mg (mm_4 (List.mem_of_getElem? (i := 26) rfl)) rfl
set_option maxRecDepth 20000 in
theorem m_4_28 : (Jvm.Cond.instanceMethod ({ cls := "DrawerGloves", name := "refusedGuess", desc := "(II)I" } : Jvm.MethodName)) ∈ gtbl := mg (mm_4 (List.mem_of_getElem? (i := 28) rfl)) rfl
set_option maxRecDepth 20000 in
theorem m_4_29 : (Jvm.Cond.code ({ cls := "DrawerGloves", name := "refusedGuess", desc := "(II)I" } : Jvm.MethodName) prog_1_method_49_code (4 : Nat) (Option.some Jvm.ClassFile.FieldType.int)) ∈ gtbl := mg (mm_4 (List.mem_of_getElem? (i := 29) rfl)) rfl
set_option maxRecDepth 20000 in
theorem m_4_30 : (Jvm.Cond.methodLink "DrawerGloves" (348 : Nat) ({ cls := "DrawerGloves$Guess", name := "isWellTold", desc := "(LDrawerGloves$Drawer;ILDrawerGloves$Rows;I)Z" } : Jvm.MethodName)) ∈ gtbl := mg (mm_4 (List.mem_of_getElem? (i := 30) rfl)) rfl
set_option maxRecDepth 20000 in
theorem m_4_31 : (Jvm.Cond.instanceMethod ({ cls := "DrawerGloves$Guess", name := "isWellTold", desc := "(LDrawerGloves$Drawer;ILDrawerGloves$Rows;I)Z" } : Jvm.MethodName)) ∈ gtbl := mg (mm_4 (List.mem_of_getElem? (i := 31) rfl)) rfl
set_option maxRecDepth 20000 in
theorem m_4_32 : (Jvm.Cond.selects "DrawerGloves$Guess" ({ cls := "DrawerGloves$Guess", name := "isWellTold", desc := "(LDrawerGloves$Drawer;ILDrawerGloves$Rows;I)Z" } : Jvm.MethodName) ({ cls := "DrawerGloves$Guess", name := "isWellTold", desc := "(LDrawerGloves$Drawer;ILDrawerGloves$Rows;I)Z" } : Jvm.MethodName)) ∈ gtbl := mg (mm_4 (List.mem_of_getElem? (i := 32) rfl)) rfl
set_option maxRecDepth 20000 in
theorem m_4_33 : (Jvm.Cond.code ({ cls := "DrawerGloves$Guess", name := "isWellTold", desc := "(LDrawerGloves$Drawer;ILDrawerGloves$Rows;I)Z" } : Jvm.MethodName) prog_7_method_2_code (8 : Nat) (Option.some Jvm.ClassFile.FieldType.boolean)) ∈ gtbl := mg (mm_4 (List.mem_of_getElem? (i := 33) rfl)) rfl
set_option maxRecDepth 20000 in
theorem m_4_34 : (Jvm.Cond.methodLink "DrawerGloves$Guess" (22 : Nat) ({ cls := "DrawerGloves$Rows", name := "sizeOf", desc := "(I)I" } : Jvm.MethodName)) ∈ gtbl := mg (mm_4 (List.mem_of_getElem? (i := 34) rfl)) rfl
set_option maxRecDepth 20000 in
theorem m_4_35 : (Jvm.Cond.methodLink "DrawerGloves$Guess" (28 : Nat) ({ cls := "DrawerGloves$Rows", name := "read", desc := "(II)I" } : Jvm.MethodName)) ∈ gtbl := mg (mm_4 (List.mem_of_getElem? (i := 35) rfl)) rfl
set_option maxRecDepth 20000 in
theorem m_4_36 : (Jvm.Cond.methodLink "DrawerGloves$Guess" (32 : Nat) ({ cls := "DrawerGloves$Drawer", name := "has", desc := "(I)Z" } : Jvm.MethodName)) ∈ gtbl := mg (mm_4 (List.mem_of_getElem? (i := 36) rfl)) rfl
set_option maxRecDepth 20000 in
theorem m_4_37 : (Jvm.Cond.methodLink "DrawerGloves" (271 : Nat) ({ cls := "DrawerGloves$Guess", name := "sortsLeft", desc := "(LDrawerGloves$Drawer;ILDrawerGloves$Rows;I)I" } : Jvm.MethodName)) ∈ gtbl := mg (mm_4 (List.mem_of_getElem? (i := 37) rfl)) rfl
set_option maxRecDepth 20000 in
theorem m_4_38 : (Jvm.Cond.instanceMethod ({ cls := "DrawerGloves$Guess", name := "sortsLeft", desc := "(LDrawerGloves$Drawer;ILDrawerGloves$Rows;I)I" } : Jvm.MethodName)) ∈ gtbl := mg (mm_4 (List.mem_of_getElem? (i := 38) rfl)) rfl
set_option maxRecDepth 20000 in
theorem m_4_39 : (Jvm.Cond.selects "DrawerGloves$Guess" ({ cls := "DrawerGloves$Guess", name := "sortsLeft", desc := "(LDrawerGloves$Drawer;ILDrawerGloves$Rows;I)I" } : Jvm.MethodName) ({ cls := "DrawerGloves$Guess", name := "sortsLeft", desc := "(LDrawerGloves$Drawer;ILDrawerGloves$Rows;I)I" } : Jvm.MethodName)) ∈ gtbl := mg (mm_4 (List.mem_of_getElem? (i := 39) rfl)) rfl
set_option maxRecDepth 20000 in
theorem m_4_40 : (Jvm.Cond.code ({ cls := "DrawerGloves$Guess", name := "sortsLeft", desc := "(LDrawerGloves$Drawer;ILDrawerGloves$Rows;I)I" } : Jvm.MethodName) prog_7_method_4_code (7 : Nat) (Option.some Jvm.ClassFile.FieldType.int)) ∈ gtbl := mg (mm_4 (List.mem_of_getElem? (i := 40) rfl)) rfl
set_option maxRecDepth 20000 in
theorem m_4_41 : (Jvm.Cond.methodLink "DrawerGloves$Guess" (54 : Nat) ({ cls := "DrawerGloves$Guess", name := "agrees", desc := "(LDrawerGloves$Drawer;LDrawerGloves$Rows;I)Z" } : Jvm.MethodName)) ∈ gtbl := mg (mm_4 (List.mem_of_getElem? (i := 41) rfl)) rfl
set_option maxRecDepth 20000 in
theorem m_4_43 : (Jvm.Cond.instanceMethod ({ cls := "DrawerGloves$Guess", name := "agrees", desc := "(LDrawerGloves$Drawer;LDrawerGloves$Rows;I)Z" } : Jvm.MethodName)) ∈ gtbl := mg (mm_4 (List.mem_of_getElem? (i := 43) rfl)) rfl
set_option maxRecDepth 20000 in
theorem m_4_44 : (Jvm.Cond.code ({ cls := "DrawerGloves$Guess", name := "agrees", desc := "(LDrawerGloves$Drawer;LDrawerGloves$Rows;I)Z" } : Jvm.MethodName) prog_7_method_3_code (6 : Nat) (Option.some Jvm.ClassFile.FieldType.boolean)) ∈ gtbl := mg (mm_4 (List.mem_of_getElem? (i := 44) rfl)) rfl
set_option maxRecDepth 20000 in
theorem m_4_45 : (Jvm.Cond.methodLink "DrawerGlovesLaw" (90 : Nat) ({ cls := "DrawerGloves", name := "hands", desc := "(II)I" } : Jvm.MethodName)) ∈ gtbl := mg (mm_4 (List.mem_of_getElem? (i := 45) rfl)) rfl
set_option maxRecDepth 20000 in
theorem m_4_46 : (Jvm.Cond.instanceMethod ({ cls := "DrawerGloves", name := "hands", desc := "(II)I" } : Jvm.MethodName)) ∈ gtbl := mg (mm_4 (List.mem_of_getElem? (i := 46) rfl)) rfl
set_option maxRecDepth 20000 in
theorem m_4_47 : (Jvm.Cond.selects "DrawerGloves" ({ cls := "DrawerGloves", name := "hands", desc := "(II)I" } : Jvm.MethodName) ({ cls := "DrawerGloves", name := "hands", desc := "(II)I" } : Jvm.MethodName)) ∈ gtbl := mg (mm_4 (List.mem_of_getElem? (i := 47) rfl)) rfl
set_option maxRecDepth 20000 in
theorem m_4_48 : (Jvm.Cond.code ({ cls := "DrawerGloves", name := "hands", desc := "(II)I" } : Jvm.MethodName) prog_1_method_30_code (4 : Nat) (Option.some Jvm.ClassFile.FieldType.int)) ∈ gtbl := mg (mm_4 (List.mem_of_getElem? (i := 48) rfl)) rfl
set_option maxRecDepth 20000 in
theorem m_4_49 : (Jvm.Cond.methodLink "DrawerGloves" (274 : Nat) ({ cls := "DrawerGloves$Guess", name := "handsLeft", desc := "(LDrawerGloves$Drawer;ILDrawerGloves$Rows;I)I" } : Jvm.MethodName)) ∈ gtbl := mg (mm_4 (List.mem_of_getElem? (i := 49) rfl)) rfl
set_option maxRecDepth 20000 in
theorem m_4_50 : (Jvm.Cond.instanceMethod ({ cls := "DrawerGloves$Guess", name := "handsLeft", desc := "(LDrawerGloves$Drawer;ILDrawerGloves$Rows;I)I" } : Jvm.MethodName)) ∈ gtbl := mg (mm_4 (List.mem_of_getElem? (i := 50) rfl)) rfl
set_option maxRecDepth 20000 in
theorem m_4_51 : (Jvm.Cond.selects "DrawerGloves$Guess" ({ cls := "DrawerGloves$Guess", name := "handsLeft", desc := "(LDrawerGloves$Drawer;ILDrawerGloves$Rows;I)I" } : Jvm.MethodName) ({ cls := "DrawerGloves$Guess", name := "handsLeft", desc := "(LDrawerGloves$Drawer;ILDrawerGloves$Rows;I)I" } : Jvm.MethodName)) ∈ gtbl := mg (mm_4 (List.mem_of_getElem? (i := 51) rfl)) rfl
set_option maxRecDepth 20000 in
theorem m_4_52 : (Jvm.Cond.code ({ cls := "DrawerGloves$Guess", name := "handsLeft", desc := "(LDrawerGloves$Drawer;ILDrawerGloves$Rows;I)I" } : Jvm.MethodName) prog_7_method_5_code (7 : Nat) (Option.some Jvm.ClassFile.FieldType.int)) ∈ gtbl := mg (mm_4 (List.mem_of_getElem? (i := 52) rfl)) rfl
set_option maxRecDepth 20000 in
theorem m_4_53 : (Jvm.Cond.methodLink "DrawerGlovesLaw" (93 : Nat) ({ cls := "DrawerGloves", name := "kinds", desc := "(II)I" } : Jvm.MethodName)) ∈ gtbl := mg (mm_4 (List.mem_of_getElem? (i := 53) rfl)) rfl
set_option maxRecDepth 20000 in
theorem m_4_54 : (Jvm.Cond.instanceMethod ({ cls := "DrawerGloves", name := "kinds", desc := "(II)I" } : Jvm.MethodName)) ∈ gtbl := mg (mm_4 (List.mem_of_getElem? (i := 54) rfl)) rfl
set_option maxRecDepth 20000 in
theorem m_4_55 : (Jvm.Cond.selects "DrawerGloves" ({ cls := "DrawerGloves", name := "kinds", desc := "(II)I" } : Jvm.MethodName) ({ cls := "DrawerGloves", name := "kinds", desc := "(II)I" } : Jvm.MethodName)) ∈ gtbl := mg (mm_4 (List.mem_of_getElem? (i := 55) rfl)) rfl
set_option maxRecDepth 20000 in
theorem m_4_56 : (Jvm.Cond.code ({ cls := "DrawerGloves", name := "kinds", desc := "(II)I" } : Jvm.MethodName) prog_1_method_31_code (4 : Nat) (Option.some Jvm.ClassFile.FieldType.int)) ∈ gtbl := mg (mm_4 (List.mem_of_getElem? (i := 56) rfl)) rfl
set_option maxRecDepth 20000 in
theorem m_4_57 : (Jvm.Cond.methodLink "DrawerGloves" (277 : Nat) ({ cls := "DrawerGloves$Guess", name := "kindsLeft", desc := "(LDrawerGloves$Drawer;ILDrawerGloves$Rows;I)I" } : Jvm.MethodName)) ∈ gtbl := mg (mm_4 (List.mem_of_getElem? (i := 57) rfl)) rfl
set_option maxRecDepth 20000 in
theorem m_4_58 : (Jvm.Cond.instanceMethod ({ cls := "DrawerGloves$Guess", name := "kindsLeft", desc := "(LDrawerGloves$Drawer;ILDrawerGloves$Rows;I)I" } : Jvm.MethodName)) ∈ gtbl := mg (mm_4 (List.mem_of_getElem? (i := 58) rfl)) rfl
set_option maxRecDepth 20000 in
theorem m_4_59 : (Jvm.Cond.selects "DrawerGloves$Guess" ({ cls := "DrawerGloves$Guess", name := "kindsLeft", desc := "(LDrawerGloves$Drawer;ILDrawerGloves$Rows;I)I" } : Jvm.MethodName) ({ cls := "DrawerGloves$Guess", name := "kindsLeft", desc := "(LDrawerGloves$Drawer;ILDrawerGloves$Rows;I)I" } : Jvm.MethodName)) ∈ gtbl := mg (mm_4 (List.mem_of_getElem? (i := 59) rfl)) rfl
set_option maxRecDepth 20000 in
theorem m_4_60 : (Jvm.Cond.code ({ cls := "DrawerGloves$Guess", name := "kindsLeft", desc := "(LDrawerGloves$Drawer;ILDrawerGloves$Rows;I)I" } : Jvm.MethodName) prog_7_method_6_code (7 : Nat) (Option.some Jvm.ClassFile.FieldType.int)) ∈ gtbl := mg (mm_4 (List.mem_of_getElem? (i := 60) rfl)) rfl
set_option maxRecDepth 20000 in
theorem m_4_61 : (Jvm.Cond.methodLink "DrawerGlovesLaw" (96 : Nat) ({ cls := "DrawerGloves", name := "test", desc := "(II)I" } : Jvm.MethodName)) ∈ gtbl := mg (mm_4 (List.mem_of_getElem? (i := 61) rfl)) rfl
set_option maxRecDepth 20000 in
theorem m_4_62 : (Jvm.Cond.instanceMethod ({ cls := "DrawerGloves", name := "test", desc := "(II)I" } : Jvm.MethodName)) ∈ gtbl := mg (mm_4 (List.mem_of_getElem? (i := 62) rfl)) rfl
set_option maxRecDepth 20000 in
theorem m_4_63 : (Jvm.Cond.selects "DrawerGloves" ({ cls := "DrawerGloves", name := "test", desc := "(II)I" } : Jvm.MethodName) ({ cls := "DrawerGloves", name := "test", desc := "(II)I" } : Jvm.MethodName)) ∈ gtbl := mg (mm_4 (List.mem_of_getElem? (i := 63) rfl)) rfl
set_option maxRecDepth 20000 in
theorem m_4_64 : (Jvm.Cond.code ({ cls := "DrawerGloves", name := "test", desc := "(II)I" } : Jvm.MethodName) prog_1_method_32_code (6 : Nat) (Option.some Jvm.ClassFile.FieldType.int)) ∈ gtbl := mg (mm_4 (List.mem_of_getElem? (i := 64) rfl)) rfl
set_option maxRecDepth 20000 in
theorem m_4_65 : (Jvm.Cond.methodLink "DrawerGloves" (280 : Nat) ({ cls := "DrawerGloves$Guess", name := "nextTry", desc := "(LDrawerGloves$Drawer;II)I" } : Jvm.MethodName)) ∈ gtbl := mg (mm_4 (List.mem_of_getElem? (i := 65) rfl)) rfl
set_option maxRecDepth 20000 in
theorem m_4_66 : (Jvm.Cond.instanceMethod ({ cls := "DrawerGloves$Guess", name := "nextTry", desc := "(LDrawerGloves$Drawer;II)I" } : Jvm.MethodName)) ∈ gtbl := mg (mm_4 (List.mem_of_getElem? (i := 66) rfl)) rfl
set_option maxRecDepth 20000 in
theorem m_4_67 : (Jvm.Cond.selects "DrawerGloves$Guess" ({ cls := "DrawerGloves$Guess", name := "nextTry", desc := "(LDrawerGloves$Drawer;II)I" } : Jvm.MethodName) ({ cls := "DrawerGloves$Guess", name := "nextTry", desc := "(LDrawerGloves$Drawer;II)I" } : Jvm.MethodName)) ∈ gtbl := mg (mm_4 (List.mem_of_getElem? (i := 67) rfl)) rfl
set_option maxRecDepth 20000 in
theorem m_4_68 : (Jvm.Cond.code ({ cls := "DrawerGloves$Guess", name := "nextTry", desc := "(LDrawerGloves$Drawer;II)I" } : Jvm.MethodName) prog_7_method_7_code (8 : Nat) (Option.some Jvm.ClassFile.FieldType.int)) ∈ gtbl := mg (mm_4 (List.mem_of_getElem? (i := 68) rfl)) rfl
set_option maxRecDepth 20000 in
theorem m_4_69 : (Jvm.Cond.methodLink "DrawerGloves$Guess" (67 : Nat) ({ cls := "DrawerGloves$Guess", name := "greatestPart", desc := "(LDrawerGloves$Drawer;III)I" } : Jvm.MethodName)) ∈ gtbl := mg (mm_4 (List.mem_of_getElem? (i := 69) rfl)) rfl
set_option maxRecDepth 20000 in
theorem m_4_70 : (Jvm.Cond.instanceMethod ({ cls := "DrawerGloves$Guess", name := "greatestPart", desc := "(LDrawerGloves$Drawer;III)I" } : Jvm.MethodName)) ∈ gtbl := mg (mm_4 (List.mem_of_getElem? (i := 70) rfl)) rfl
set_option maxRecDepth 20000 in
theorem m_4_71 : (Jvm.Cond.selects "DrawerGloves$Guess" ({ cls := "DrawerGloves$Guess", name := "greatestPart", desc := "(LDrawerGloves$Drawer;III)I" } : Jvm.MethodName) ({ cls := "DrawerGloves$Guess", name := "greatestPart", desc := "(LDrawerGloves$Drawer;III)I" } : Jvm.MethodName)) ∈ gtbl := mg (mm_4 (List.mem_of_getElem? (i := 71) rfl)) rfl
set_option maxRecDepth 20000 in
theorem m_4_72 : (Jvm.Cond.code ({ cls := "DrawerGloves$Guess", name := "greatestPart", desc := "(LDrawerGloves$Drawer;III)I" } : Jvm.MethodName) prog_7_method_8_code (7 : Nat) (Option.some Jvm.ClassFile.FieldType.int)) ∈ gtbl := mg (mm_4 (List.mem_of_getElem? (i := 72) rfl)) rfl
set_option maxRecDepth 20000 in
theorem m_4_73 : (Jvm.Cond.methodLink "DrawerGloves$Guess" (71 : Nat) ({ cls := "DrawerGloves$Guess", name := "howManyLike", desc := "(II)I" } : Jvm.MethodName)) ∈ gtbl := mg (mm_4 (List.mem_of_getElem? (i := 73) rfl)) rfl
set_option maxRecDepth 20000 in
theorem m_4_75 : (Jvm.Cond.instanceMethod ({ cls := "DrawerGloves$Guess", name := "howManyLike", desc := "(II)I" } : Jvm.MethodName)) ∈ gtbl := mg (mm_4 (List.mem_of_getElem? (i := 75) rfl)) rfl
set_option maxRecDepth 20000 in
theorem m_4_76 : (Jvm.Cond.code ({ cls := "DrawerGloves$Guess", name := "howManyLike", desc := "(II)I" } : Jvm.MethodName) prog_7_method_9_code (5 : Nat) (Option.some Jvm.ClassFile.FieldType.int)) ∈ gtbl := mg (mm_4 (List.mem_of_getElem? (i := 76) rfl)) rfl
set_option maxRecDepth 20000 in
theorem m_4_77 : (Jvm.Cond.methodLink "DrawerGloves$Guess" (74 : Nat) ({ cls := "java/lang/Math", name := "max", desc := "(II)I" } : Jvm.MethodName)) ∈ gtbl := mg (mm_4 (List.mem_of_getElem? (i := 77) rfl)) rfl
set_option maxRecDepth 20000 in
theorem m_4_78 : (Jvm.Cond.methodLink "DrawerGloves" (284 : Nat) ({ cls := "DrawerGloves$Guess", name := "greatestPart", desc := "(LDrawerGloves$Drawer;III)I" } : Jvm.MethodName)) ∈ gtbl := mg (mm_4 (List.mem_of_getElem? (i := 78) rfl)) rfl
set_option maxRecDepth 20000 in
theorem m_4_79 : (Jvm.Cond.methodLink "DrawerGlovesLaw" (99 : Nat) ({ cls := "DrawerGloves", name := "duel", desc := "(I)I" } : Jvm.MethodName)) ∈ gtbl := mg (mm_4 (List.mem_of_getElem? (i := 79) rfl)) rfl
set_option maxRecDepth 20000 in
theorem m_4_80 : (Jvm.Cond.instanceMethod ({ cls := "DrawerGloves", name := "duel", desc := "(I)I" } : Jvm.MethodName)) ∈ gtbl := mg (mm_4 (List.mem_of_getElem? (i := 80) rfl)) rfl
set_option maxRecDepth 20000 in
theorem m_4_81 : (Jvm.Cond.selects "DrawerGloves" ({ cls := "DrawerGloves", name := "duel", desc := "(I)I" } : Jvm.MethodName) ({ cls := "DrawerGloves", name := "duel", desc := "(I)I" } : Jvm.MethodName)) ∈ gtbl := mg (mm_4 (List.mem_of_getElem? (i := 81) rfl)) rfl
set_option maxRecDepth 20000 in
theorem m_4_82 : (Jvm.Cond.code ({ cls := "DrawerGloves", name := "duel", desc := "(I)I" } : Jvm.MethodName) prog_1_method_33_code (2 : Nat) (Option.some Jvm.ClassFile.FieldType.int)) ∈ gtbl := mg (mm_4 (List.mem_of_getElem? (i := 82) rfl)) rfl
set_option maxRecDepth 20000 in
theorem m_4_83 : (Jvm.Cond.methodLink "DrawerGloves" (288 : Nat) ({ cls := "DrawerGloves$Rivals", name := "leadAfter", desc := "(LDrawerGloves$Makings;II)I" } : Jvm.MethodName)) ∈ gtbl := mg (mm_4 (List.mem_of_getElem? (i := 83) rfl)) rfl
set_option maxRecDepth 20000 in
theorem m_4_84 : (Jvm.Cond.instanceMethod ({ cls := "DrawerGloves$Rivals", name := "leadAfter", desc := "(LDrawerGloves$Makings;II)I" } : Jvm.MethodName)) ∈ gtbl := mg (mm_4 (List.mem_of_getElem? (i := 84) rfl)) rfl
set_option maxRecDepth 20000 in
theorem m_4_85 : (Jvm.Cond.selects "DrawerGloves$Rivals" ({ cls := "DrawerGloves$Rivals", name := "leadAfter", desc := "(LDrawerGloves$Makings;II)I" } : Jvm.MethodName) ({ cls := "DrawerGloves$Rivals", name := "leadAfter", desc := "(LDrawerGloves$Makings;II)I" } : Jvm.MethodName)) ∈ gtbl := mg (mm_4 (List.mem_of_getElem? (i := 85) rfl)) rfl
set_option maxRecDepth 20000 in
theorem m_4_86 : (Jvm.Cond.code ({ cls := "DrawerGloves$Rivals", name := "leadAfter", desc := "(LDrawerGloves$Makings;II)I" } : Jvm.MethodName) prog_10_method_2_code (5 : Nat) (Option.some Jvm.ClassFile.FieldType.int)) ∈ gtbl := mg (mm_4 (List.mem_of_getElem? (i := 86) rfl)) rfl
set_option maxRecDepth 20000 in
theorem m_4_87 : (Jvm.Cond.constant "DrawerGloves$Rivals" (18 : Nat) (1000000 : Int32)) ∈ gtbl := mg (mm_4 (List.mem_of_getElem? (i := 87) rfl)) rfl
set_option maxRecDepth 20000 in
theorem m_4_88 : (Jvm.Cond.methodLink "DrawerGloves$Rivals" (19 : Nat) ({ cls := "DrawerGloves$Rivals", name := "lead", desc := "(LDrawerGloves$Rivals;LDrawerGloves$Makings;IIII)I" } : Jvm.MethodName)) ∈ gtbl := mg (mm_4 (List.mem_of_getElem? (i := 88) rfl)) rfl
set_option maxRecDepth 20000 in
theorem m_4_89 : (Jvm.Cond.static ({ cls := "DrawerGloves$Rivals", name := "lead", desc := "(LDrawerGloves$Rivals;LDrawerGloves$Makings;IIII)I" } : Jvm.MethodName)) ∈ gtbl := mg (mm_4 (List.mem_of_getElem? (i := 89) rfl)) rfl
set_option maxRecDepth 20000 in
theorem m_4_90 : (Jvm.Cond.code ({ cls := "DrawerGloves$Rivals", name := "lead", desc := "(LDrawerGloves$Rivals;LDrawerGloves$Makings;IIII)I" } : Jvm.MethodName) prog_10_method_3_code (10 : Nat) (Option.some Jvm.ClassFile.FieldType.int)) ∈ gtbl := mg (mm_4 (List.mem_of_getElem? (i := 90) rfl)) rfl
set_option maxRecDepth 20000 in
theorem m_4_91 : (Jvm.Cond.constant "DrawerGloves$Rivals" (28 : Nat) (-1000000 : Int32)) ∈ gtbl := mg (mm_4 (List.mem_of_getElem? (i := 91) rfl)) rfl
set_option maxRecDepth 20000 in
theorem m_4_92 : (Jvm.Cond.methodLink "DrawerGloves$Rivals" (29 : Nat) ({ cls := "java/lang/Math", name := "max", desc := "(II)I" } : Jvm.MethodName)) ∈ gtbl := mg (mm_4 (List.mem_of_getElem? (i := 92) rfl)) rfl
set_option maxRecDepth 20000 in
theorem m_4_93 : (Jvm.Cond.methodLink "DrawerGlovesLaw" (102 : Nat) ({ cls := "DrawerGloves", name := "odds", desc := "(III)I" } : Jvm.MethodName)) ∈ gtbl := mg (mm_4 (List.mem_of_getElem? (i := 93) rfl)) rfl
set_option maxRecDepth 20000 in
theorem m_4_94 : (Jvm.Cond.instanceMethod ({ cls := "DrawerGloves", name := "odds", desc := "(III)I" } : Jvm.MethodName)) ∈ gtbl := mg (mm_4 (List.mem_of_getElem? (i := 94) rfl)) rfl
set_option maxRecDepth 20000 in
theorem m_4_95 : (Jvm.Cond.selects "DrawerGloves" ({ cls := "DrawerGloves", name := "odds", desc := "(III)I" } : Jvm.MethodName) ({ cls := "DrawerGloves", name := "odds", desc := "(III)I" } : Jvm.MethodName)) ∈ gtbl := mg (mm_4 (List.mem_of_getElem? (i := 95) rfl)) rfl
set_option maxRecDepth 20000 in
theorem m_4_96 : (Jvm.Cond.code ({ cls := "DrawerGloves", name := "odds", desc := "(III)I" } : Jvm.MethodName) prog_1_method_34_code (4 : Nat) (Option.some Jvm.ClassFile.FieldType.int)) ∈ gtbl := mg (mm_4 (List.mem_of_getElem? (i := 96) rfl)) rfl
set_option maxRecDepth 20000 in
theorem m_4_97 : (Jvm.Cond.methodLink "DrawerGloves" (292 : Nat) ({ cls := "DrawerGloves", name := "isChance", desc := "(I)Z" } : Jvm.MethodName)) ∈ gtbl := mg (mm_4 (List.mem_of_getElem? (i := 97) rfl)) rfl
set_option maxRecDepth 20000 in
theorem m_4_98 : (Jvm.Cond.static ({ cls := "DrawerGloves", name := "isChance", desc := "(I)Z" } : Jvm.MethodName)) ∈ gtbl := mg (mm_4 (List.mem_of_getElem? (i := 98) rfl)) rfl
set_option maxRecDepth 20000 in
theorem m_4_99 : (Jvm.Cond.code ({ cls := "DrawerGloves", name := "isChance", desc := "(I)Z" } : Jvm.MethodName) prog_1_method_52_code (1 : Nat) (Option.some Jvm.ClassFile.FieldType.boolean)) ∈ gtbl := mg (mm_4 (List.mem_of_getElem? (i := 99) rfl)) rfl
set_option maxRecDepth 20000 in
theorem m_4_100 : (Jvm.Cond.methodLink "DrawerGloves" (295 : Nat) ({ cls := "DrawerGloves$Makings", name := "markSetsOf", desc := "(I)V" } : Jvm.MethodName)) ∈ gtbl := mg (mm_4 (List.mem_of_getElem? (i := 100) rfl)) rfl
set_option maxRecDepth 20000 in
theorem m_4_101 : (Jvm.Cond.instanceMethod ({ cls := "DrawerGloves$Makings", name := "markSetsOf", desc := "(I)V" } : Jvm.MethodName)) ∈ gtbl := mg (mm_4 (List.mem_of_getElem? (i := 101) rfl)) rfl
set_option maxRecDepth 20000 in
theorem m_4_102 : (Jvm.Cond.selects "DrawerGloves$Makings" ({ cls := "DrawerGloves$Makings", name := "markSetsOf", desc := "(I)V" } : Jvm.MethodName) ({ cls := "DrawerGloves$Makings", name := "markSetsOf", desc := "(I)V" } : Jvm.MethodName)) ∈ gtbl := mg (mm_4 (List.mem_of_getElem? (i := 102) rfl)) rfl
set_option maxRecDepth 20000 in
theorem m_4_103 : (Jvm.Cond.code ({ cls := "DrawerGloves$Makings", name := "markSetsOf", desc := "(I)V" } : Jvm.MethodName) prog_8_method_9_code (3 : Nat) (Option.none : Option Jvm.ClassFile.FieldType)) ∈ gtbl := mg (mm_4 (List.mem_of_getElem? (i := 103) rfl)) rfl
set_option maxRecDepth 20000 in
theorem m_4_104 : (Jvm.Cond.methodLink "DrawerGloves" (301 : Nat) ({ cls := "DrawerGloves$Chances", name := "reckon", desc := "(LDrawerGloves$Drawer;II[I)V" } : Jvm.MethodName)) ∈ gtbl := mg (mm_4 (List.mem_of_getElem? (i := 104) rfl)) rfl
set_option maxRecDepth 20000 in
theorem m_4_105 : (Jvm.Cond.instanceMethod ({ cls := "DrawerGloves$Chances", name := "reckon", desc := "(LDrawerGloves$Drawer;II[I)V" } : Jvm.MethodName)) ∈ gtbl := mg (mm_4 (List.mem_of_getElem? (i := 105) rfl)) rfl
set_option maxRecDepth 20000 in
theorem m_4_106 : (Jvm.Cond.selects "DrawerGloves$Chances" ({ cls := "DrawerGloves$Chances", name := "reckon", desc := "(LDrawerGloves$Drawer;II[I)V" } : Jvm.MethodName) ({ cls := "DrawerGloves$Chances", name := "reckon", desc := "(LDrawerGloves$Drawer;II[I)V" } : Jvm.MethodName)) ∈ gtbl := mg (mm_4 (List.mem_of_getElem? (i := 106) rfl)) rfl
set_option maxRecDepth 20000 in
theorem m_4_107 : (Jvm.Cond.code ({ cls := "DrawerGloves$Chances", name := "reckon", desc := "(LDrawerGloves$Drawer;II[I)V" } : Jvm.MethodName) prog_3_method_2_code (12 : Nat) (Option.none : Option Jvm.ClassFile.FieldType)) ∈ gtbl := mg (mm_4 (List.mem_of_getElem? (i := 107) rfl)) rfl
set_option maxRecDepth 20000 in
theorem m_4_108 : (Jvm.Cond.methodLink "DrawerGloves$Chances" (22 : Nat) ({ cls := "DrawerGloves$Drawer", name := "setOf", desc := "(I)I" } : Jvm.MethodName)) ∈ gtbl := mg (mm_4 (List.mem_of_getElem? (i := 108) rfl)) rfl
set_option maxRecDepth 20000 in
theorem m_4_109 : (Jvm.Cond.methodLink "DrawerGloves$Chances" (36 : Nat) ({ cls := "DrawerGloves$Chances", name := "lossOf", desc := "(LDrawerGloves$Glove;II)I" } : Jvm.MethodName)) ∈ gtbl := mg (mm_4 (List.mem_of_getElem? (i := 109) rfl)) rfl
set_option maxRecDepth 20000 in
theorem m_4_110 : (Jvm.Cond.static ({ cls := "DrawerGloves$Chances", name := "lossOf", desc := "(LDrawerGloves$Glove;II)I" } : Jvm.MethodName)) ∈ gtbl := mg (mm_4 (List.mem_of_getElem? (i := 110) rfl)) rfl
set_option maxRecDepth 20000 in
theorem m_4_111 : (Jvm.Cond.code ({ cls := "DrawerGloves$Chances", name := "lossOf", desc := "(LDrawerGloves$Glove;II)I" } : Jvm.MethodName) prog_3_method_3_code (3 : Nat) (Option.some Jvm.ClassFile.FieldType.int)) ∈ gtbl := mg (mm_4 (List.mem_of_getElem? (i := 111) rfl)) rfl
set_option maxRecDepth 20000 in
theorem m_4_112 : (Jvm.Cond.methodLink "DrawerGloves$Chances" (55 : Nat) ({ cls := "DrawerGloves$Glove", name := "isOf", desc := "(I)Z" } : Jvm.MethodName)) ∈ gtbl := mg (mm_4 (List.mem_of_getElem? (i := 112) rfl)) rfl
set_option maxRecDepth 20000 in
theorem m_4_113 : (Jvm.Cond.methodLink "DrawerGloves$Chances" (59 : Nat) ({ cls := "java/lang/Math", name := "max", desc := "(II)I" } : Jvm.MethodName)) ∈ gtbl := mg (mm_4 (List.mem_of_getElem? (i := 113) rfl)) rfl
set_option maxRecDepth 20000 in
theorem m_4_114 : (Jvm.Cond.constantLong "DrawerGloves$Chances" (40 : Nat) (12 : Int64)) ∈ gtbl := mg (mm_4 (List.mem_of_getElem? (i := 114) rfl)) rfl
set_option maxRecDepth 20000 in
theorem m_4_115 : (Jvm.Cond.methodLink "DrawerGloves$Chances" (42 : Nat) ({ cls := "DrawerGloves$Chances", name := "waysTo", desc := "(LDrawerGloves$Drawer;II)J" } : Jvm.MethodName)) ∈ gtbl := mg (mm_4 (List.mem_of_getElem? (i := 115) rfl)) rfl
set_option maxRecDepth 20000 in
theorem m_4_117 : (Jvm.Cond.instanceMethod ({ cls := "DrawerGloves$Chances", name := "waysTo", desc := "(LDrawerGloves$Drawer;II)J" } : Jvm.MethodName)) ∈ gtbl := mg (mm_4 (List.mem_of_getElem? (i := 117) rfl)) rfl
set_option maxRecDepth 20000 in
theorem m_4_118 : (Jvm.Cond.code ({ cls := "DrawerGloves$Chances", name := "waysTo", desc := "(LDrawerGloves$Drawer;II)J" } : Jvm.MethodName) prog_3_method_4_code (7 : Nat) (Option.some Jvm.ClassFile.FieldType.long)) ∈ gtbl := mg (mm_4 (List.mem_of_getElem? (i := 118) rfl)) rfl
set_option maxRecDepth 20000 in
theorem m_4_119 : (Jvm.Cond.methodLink "DrawerGloves$Chances" (46 : Nat) ({ cls := "DrawerGloves$Chances", name := "commonDivisor", desc := "(JJ)J" } : Jvm.MethodName)) ∈ gtbl := mg (mm_4 (List.mem_of_getElem? (i := 119) rfl)) rfl
set_option maxRecDepth 20000 in
theorem m_4_120 : (Jvm.Cond.static ({ cls := "DrawerGloves$Chances", name := "commonDivisor", desc := "(JJ)J" } : Jvm.MethodName)) ∈ gtbl := mg (mm_4 (List.mem_of_getElem? (i := 120) rfl)) rfl
set_option maxRecDepth 20000 in
theorem m_4_121 : (Jvm.Cond.code ({ cls := "DrawerGloves$Chances", name := "commonDivisor", desc := "(JJ)J" } : Jvm.MethodName) prog_3_method_5_code (7 : Nat) (Option.some Jvm.ClassFile.FieldType.long)) ∈ gtbl := mg (mm_4 (List.mem_of_getElem? (i := 121) rfl)) rfl
set_option maxRecDepth 20000 in
theorem m_4_122 : (Jvm.Cond.methodLink "DrawerGlovesLaw" (105 : Nat) ({ cls := "DrawerGloves", name := "mid", desc := "(II)I" } : Jvm.MethodName)) ∈ gtbl := mg (mm_4 (List.mem_of_getElem? (i := 122) rfl)) rfl
set_option maxRecDepth 20000 in
theorem m_4_123 : (Jvm.Cond.instanceMethod ({ cls := "DrawerGloves", name := "mid", desc := "(II)I" } : Jvm.MethodName)) ∈ gtbl := mg (mm_4 (List.mem_of_getElem? (i := 123) rfl)) rfl
set_option maxRecDepth 20000 in
theorem m_4_124 : (Jvm.Cond.selects "DrawerGloves" ({ cls := "DrawerGloves", name := "mid", desc := "(II)I" } : Jvm.MethodName) ({ cls := "DrawerGloves", name := "mid", desc := "(II)I" } : Jvm.MethodName)) ∈ gtbl := mg (mm_4 (List.mem_of_getElem? (i := 124) rfl)) rfl
set_option maxRecDepth 20000 in
theorem m_4_125 : (Jvm.Cond.code ({ cls := "DrawerGloves", name := "mid", desc := "(II)I" } : Jvm.MethodName) prog_1_method_35_code (3 : Nat) (Option.some Jvm.ClassFile.FieldType.int)) ∈ gtbl := mg (mm_4 (List.mem_of_getElem? (i := 125) rfl)) rfl
set_option maxRecDepth 20000 in
theorem m_4_126 : (Jvm.Cond.methodLink "DrawerGlovesLaw" (114 : Nat) ({ cls := "DrawerGloves", name := "findings", desc := "(I)I" } : Jvm.MethodName)) ∈ gtbl := mg (mm_4 (List.mem_of_getElem? (i := 126) rfl)) rfl
set_option maxRecDepth 20000 in
theorem m_4_127 : (Jvm.Cond.instanceMethod ({ cls := "DrawerGloves", name := "findings", desc := "(I)I" } : Jvm.MethodName)) ∈ gtbl := mg (mm_4 (List.mem_of_getElem? (i := 127) rfl)) rfl
set_option maxRecDepth 20000 in
theorem m_4_128 : (Jvm.Cond.selects "DrawerGloves" ({ cls := "DrawerGloves", name := "findings", desc := "(I)I" } : Jvm.MethodName) ({ cls := "DrawerGloves", name := "findings", desc := "(I)I" } : Jvm.MethodName)) ∈ gtbl := mg (mm_4 (List.mem_of_getElem? (i := 128) rfl)) rfl
set_option maxRecDepth 20000 in
theorem m_4_129 : (Jvm.Cond.code ({ cls := "DrawerGloves", name := "findings", desc := "(I)I" } : Jvm.MethodName) prog_1_method_42_code (2 : Nat) (Option.some Jvm.ClassFile.FieldType.int)) ∈ gtbl := mg (mm_4 (List.mem_of_getElem? (i := 129) rfl)) rfl
set_option maxRecDepth 20000 in
theorem m_4_130 : (Jvm.Cond.methodLink "DrawerGlovesLaw" (122 : Nat) ({ cls := "DrawerGlovesLaw", name := "drawer", desc := "(LDrawerGloves;)Z" } : Jvm.MethodName)) ∈ gtbl := mg (mm_4 (List.mem_of_getElem? (i := 130) rfl)) rfl
set_option maxRecDepth 20000 in
theorem m_4_131 : (Jvm.Cond.static ({ cls := "DrawerGlovesLaw", name := "drawer", desc := "(LDrawerGloves;)Z" } : Jvm.MethodName)) ∈ gtbl := mg (mm_4 (List.mem_of_getElem? (i := 131) rfl)) rfl
set_option maxRecDepth 20000 in
theorem m_4_132 : (Jvm.Cond.code ({ cls := "DrawerGlovesLaw", name := "drawer", desc := "(LDrawerGloves;)Z" } : Jvm.MethodName) method_5_code (1 : Nat) (Option.some Jvm.ClassFile.FieldType.boolean)) ∈ gtbl := mg (mm_4 (List.mem_of_getElem? (i := 132) rfl)) rfl
set_option maxRecDepth 20000 in
theorem m_4_133 : (Jvm.Cond.methodLink "DrawerGlovesLaw" (160 : Nat) ({ cls := "DrawerGlovesLaw", name := "turn", desc := "(LDrawerGloves;I)I" } : Jvm.MethodName)) ∈ gtbl := mg (mm_4 (List.mem_of_getElem? (i := 133) rfl)) rfl
set_option maxRecDepth 20000 in
theorem m_4_134 : (Jvm.Cond.static ({ cls := "DrawerGlovesLaw", name := "turn", desc := "(LDrawerGloves;I)I" } : Jvm.MethodName)) ∈ gtbl := mg (mm_4 (List.mem_of_getElem? (i := 134) rfl)) rfl
set_option maxRecDepth 20000 in
theorem m_4_135 : (Jvm.Cond.code ({ cls := "DrawerGlovesLaw", name := "turn", desc := "(LDrawerGloves;I)I" } : Jvm.MethodName) method_6_code (3 : Nat) (Option.some Jvm.ClassFile.FieldType.int)) ∈ gtbl := mg (mm_4 (List.mem_of_getElem? (i := 135) rfl)) rfl
set_option maxRecDepth 20000 in
theorem m_4_136 : (Jvm.Cond.methodLink "DrawerGlovesLaw" (125 : Nat) ({ cls := "DrawerGloves", name := "missed", desc := "()I" } : Jvm.MethodName)) ∈ gtbl := mg (mm_4 (List.mem_of_getElem? (i := 136) rfl)) rfl
set_option maxRecDepth 20000 in
theorem m_4_137 : (Jvm.Cond.instanceMethod ({ cls := "DrawerGloves", name := "missed", desc := "()I" } : Jvm.MethodName)) ∈ gtbl := mg (mm_4 (List.mem_of_getElem? (i := 137) rfl)) rfl
set_option maxRecDepth 20000 in
theorem m_4_138 : (Jvm.Cond.selects "DrawerGloves" ({ cls := "DrawerGloves", name := "missed", desc := "()I" } : Jvm.MethodName) ({ cls := "DrawerGloves", name := "missed", desc := "()I" } : Jvm.MethodName)) ∈ gtbl := mg (mm_4 (List.mem_of_getElem? (i := 138) rfl)) rfl
set_option maxRecDepth 20000 in
theorem m_4_139 : (Jvm.Cond.code ({ cls := "DrawerGloves", name := "missed", desc := "()I" } : Jvm.MethodName) prog_1_method_24_code (1 : Nat) (Option.some Jvm.ClassFile.FieldType.int)) ∈ gtbl := mg (mm_4 (List.mem_of_getElem? (i := 139) rfl)) rfl
set_option maxRecDepth 20000 in
theorem m_4_140 : (Jvm.Cond.methodLink "DrawerGloves" (254 : Nat) ({ cls := "DrawerGloves", name := "greatestChange", desc := "(I)I" } : Jvm.MethodName)) ∈ gtbl := mg (mm_4 (List.mem_of_getElem? (i := 140) rfl)) rfl
set_option maxRecDepth 20000 in
theorem m_4_142 : (Jvm.Cond.instanceMethod ({ cls := "DrawerGloves", name := "greatestChange", desc := "(I)I" } : Jvm.MethodName)) ∈ gtbl := mg (mm_4 (List.mem_of_getElem? (i := 142) rfl)) rfl
set_option maxRecDepth 20000 in
theorem m_4_143 : (Jvm.Cond.code ({ cls := "DrawerGloves", name := "greatestChange", desc := "(I)I" } : Jvm.MethodName) prog_1_method_50_code (7 : Nat) (Option.some Jvm.ClassFile.FieldType.int)) ∈ gtbl := mg (mm_4 (List.mem_of_getElem? (i := 143) rfl)) rfl
set_option maxRecDepth 20000 in
theorem m_4_144 : (Jvm.Cond.methodLink "DrawerGloves" (352 : Nat) ({ cls := "java/lang/Math", name := "abs", desc := "(I)I" } : Jvm.MethodName)) ∈ gtbl := mg (mm_4 (List.mem_of_getElem? (i := 144) rfl)) rfl
set_option maxRecDepth 20000 in
theorem m_4_145 : (Jvm.Cond.methodLink "DrawerGlovesLaw" (129 : Nat) ({ cls := "DrawerGloves", name := "wished", desc := "()I" } : Jvm.MethodName)) ∈ gtbl := mg (mm_4 (List.mem_of_getElem? (i := 145) rfl)) rfl
set_option maxRecDepth 20000 in
theorem m_4_146 : (Jvm.Cond.instanceMethod ({ cls := "DrawerGloves", name := "wished", desc := "()I" } : Jvm.MethodName)) ∈ gtbl := mg (mm_4 (List.mem_of_getElem? (i := 146) rfl)) rfl
set_option maxRecDepth 20000 in
theorem m_4_147 : (Jvm.Cond.selects "DrawerGloves" ({ cls := "DrawerGloves", name := "wished", desc := "()I" } : Jvm.MethodName) ({ cls := "DrawerGloves", name := "wished", desc := "()I" } : Jvm.MethodName)) ∈ gtbl := mg (mm_4 (List.mem_of_getElem? (i := 147) rfl)) rfl
set_option maxRecDepth 20000 in
theorem m_4_148 : (Jvm.Cond.code ({ cls := "DrawerGloves", name := "wished", desc := "()I" } : Jvm.MethodName) prog_1_method_25_code (1 : Nat) (Option.some Jvm.ClassFile.FieldType.int)) ∈ gtbl := mg (mm_4 (List.mem_of_getElem? (i := 148) rfl)) rfl
set_option maxRecDepth 20000 in
theorem m_4_149 : (Jvm.Cond.methodLink "DrawerGlovesLaw" (164 : Nat) ({ cls := "DrawerGlovesLaw", name := "same", desc := "(LDrawerGloves;LDrawerGloves;)Z" } : Jvm.MethodName)) ∈ gtbl := mg (mm_4 (List.mem_of_getElem? (i := 149) rfl)) rfl
set_option maxRecDepth 20000 in
theorem m_4_150 : (Jvm.Cond.static ({ cls := "DrawerGlovesLaw", name := "same", desc := "(LDrawerGloves;LDrawerGloves;)Z" } : Jvm.MethodName)) ∈ gtbl := mg (mm_4 (List.mem_of_getElem? (i := 150) rfl)) rfl
set_option maxRecDepth 20000 in
theorem m_4_151 : (Jvm.Cond.code ({ cls := "DrawerGlovesLaw", name := "same", desc := "(LDrawerGloves;LDrawerGloves;)Z" } : Jvm.MethodName) method_7_code (2 : Nat) (Option.some Jvm.ClassFile.FieldType.boolean)) ∈ gtbl := mg (mm_4 (List.mem_of_getElem? (i := 151) rfl)) rfl
set_option maxRecDepth 20000 in
theorem m_4_152 : (Jvm.Cond.methodLink "DrawerGlovesLaw" (139 : Nat) ({ cls := "DrawerGloves", name := "asked", desc := "()I" } : Jvm.MethodName)) ∈ gtbl := mg (mm_4 (List.mem_of_getElem? (i := 152) rfl)) rfl
set_option maxRecDepth 20000 in
theorem m_4_153 : (Jvm.Cond.instanceMethod ({ cls := "DrawerGloves", name := "asked", desc := "()I" } : Jvm.MethodName)) ∈ gtbl := mg (mm_4 (List.mem_of_getElem? (i := 153) rfl)) rfl
set_option maxRecDepth 20000 in
theorem m_4_154 : (Jvm.Cond.selects "DrawerGloves" ({ cls := "DrawerGloves", name := "asked", desc := "()I" } : Jvm.MethodName) ({ cls := "DrawerGloves", name := "asked", desc := "()I" } : Jvm.MethodName)) ∈ gtbl := mg (mm_4 (List.mem_of_getElem? (i := 154) rfl)) rfl
set_option maxRecDepth 20000 in
theorem m_4_155 : (Jvm.Cond.code ({ cls := "DrawerGloves", name := "asked", desc := "()I" } : Jvm.MethodName) prog_1_method_37_code (1 : Nat) (Option.some Jvm.ClassFile.FieldType.int)) ∈ gtbl := mg (mm_4 (List.mem_of_getElem? (i := 155) rfl)) rfl
set_option maxRecDepth 20000 in
theorem m_4_156 : (Jvm.Cond.methodLink "DrawerGlovesLaw" (142 : Nat) ({ cls := "DrawerGloves", name := "upper", desc := "()J" } : Jvm.MethodName)) ∈ gtbl := mg (mm_4 (List.mem_of_getElem? (i := 156) rfl)) rfl
set_option maxRecDepth 20000 in
theorem m_4_157 : (Jvm.Cond.instanceMethod ({ cls := "DrawerGloves", name := "upper", desc := "()J" } : Jvm.MethodName)) ∈ gtbl := mg (mm_4 (List.mem_of_getElem? (i := 157) rfl)) rfl
set_option maxRecDepth 20000 in
theorem m_4_158 : (Jvm.Cond.selects "DrawerGloves" ({ cls := "DrawerGloves", name := "upper", desc := "()J" } : Jvm.MethodName) ({ cls := "DrawerGloves", name := "upper", desc := "()J" } : Jvm.MethodName)) ∈ gtbl := mg (mm_4 (List.mem_of_getElem? (i := 158) rfl)) rfl
set_option maxRecDepth 20000 in
theorem m_4_159 : (Jvm.Cond.code ({ cls := "DrawerGloves", name := "upper", desc := "()J" } : Jvm.MethodName) prog_1_method_38_code (1 : Nat) (Option.some Jvm.ClassFile.FieldType.long)) ∈ gtbl := mg (mm_4 (List.mem_of_getElem? (i := 159) rfl)) rfl
set_option maxRecDepth 20000 in
theorem m_4_160 : (Jvm.Cond.methodLink "DrawerGlovesLaw" (145 : Nat) ({ cls := "DrawerGloves", name := "lower", desc := "()J" } : Jvm.MethodName)) ∈ gtbl := mg (mm_4 (List.mem_of_getElem? (i := 160) rfl)) rfl
set_option maxRecDepth 20000 in
theorem m_4_161 : (Jvm.Cond.instanceMethod ({ cls := "DrawerGloves", name := "lower", desc := "()J" } : Jvm.MethodName)) ∈ gtbl := mg (mm_4 (List.mem_of_getElem? (i := 161) rfl)) rfl
set_option maxRecDepth 20000 in
theorem m_4_162 : (Jvm.Cond.selects "DrawerGloves" ({ cls := "DrawerGloves", name := "lower", desc := "()J" } : Jvm.MethodName) ({ cls := "DrawerGloves", name := "lower", desc := "()J" } : Jvm.MethodName)) ∈ gtbl := mg (mm_4 (List.mem_of_getElem? (i := 162) rfl)) rfl
set_option maxRecDepth 20000 in
theorem m_4_163 : (Jvm.Cond.code ({ cls := "DrawerGloves", name := "lower", desc := "()J" } : Jvm.MethodName) prog_1_method_39_code (1 : Nat) (Option.some Jvm.ClassFile.FieldType.long)) ∈ gtbl := mg (mm_4 (List.mem_of_getElem? (i := 163) rfl)) rfl
set_option maxRecDepth 20000 in
theorem m_4_164 : (Jvm.Cond.methodLink "DrawerGlovesLaw" (148 : Nat) ({ cls := "DrawerGloves", name := "finding", desc := "()I" } : Jvm.MethodName)) ∈ gtbl := mg (mm_4 (List.mem_of_getElem? (i := 164) rfl)) rfl
set_option maxRecDepth 20000 in
theorem m_4_165 : (Jvm.Cond.instanceMethod ({ cls := "DrawerGloves", name := "finding", desc := "()I" } : Jvm.MethodName)) ∈ gtbl := mg (mm_4 (List.mem_of_getElem? (i := 165) rfl)) rfl
set_option maxRecDepth 20000 in
theorem m_4_166 : (Jvm.Cond.selects "DrawerGloves" ({ cls := "DrawerGloves", name := "finding", desc := "()I" } : Jvm.MethodName) ({ cls := "DrawerGloves", name := "finding", desc := "()I" } : Jvm.MethodName)) ∈ gtbl := mg (mm_4 (List.mem_of_getElem? (i := 166) rfl)) rfl
set_option maxRecDepth 20000 in
theorem m_4_167 : (Jvm.Cond.code ({ cls := "DrawerGloves", name := "finding", desc := "()I" } : Jvm.MethodName) prog_1_method_41_code (1 : Nat) (Option.some Jvm.ClassFile.FieldType.int)) ∈ gtbl := mg (mm_4 (List.mem_of_getElem? (i := 167) rfl)) rfl
set_option maxRecDepth 20000 in
theorem m_4_168 : (Jvm.Cond.constant "DrawerGlovesLaw" (168 : Nat) (268435455 : Int32)) ∈ gtbl := mg (mm_4 (List.mem_of_getElem? (i := 168) rfl)) rfl
theorem ms_0 : Cond.selects "DrawerGloves$Glove" (⟨"DrawerGloves$Glove", "goesOn", "(I)Z"⟩ : MethodName) ⟨"DrawerGloves$Glove", "goesOn", "(I)Z"⟩ ∈ gtbl := mg (mp_1 (q := (⟨"DrawerGloves$Glove", "goesOn", "(I)Z"⟩, _)) (List.mem_of_getElem? (i := 0) rfl)) rfl
theorem ms_1 : Cond.selects "DrawerGloves$Drawer" (⟨"DrawerGloves$Drawer", "carryOut", "(III)V"⟩ : MethodName) ⟨"DrawerGloves$Drawer", "carryOut", "(III)V"⟩ ∈ gtbl := mg (mp_1 (q := (⟨"DrawerGloves$Drawer", "carryOut", "(III)V"⟩, _)) (List.mem_of_getElem? (i := 1) rfl)) rfl
theorem ms_2 : Cond.selects "DrawerGloves" (⟨"DrawerGloves", "finds", "(I)I"⟩ : MethodName) ⟨"DrawerGloves", "finds", "(I)I"⟩ ∈ gtbl := mg (mp_1 (q := (⟨"DrawerGloves", "finds", "(I)I"⟩, _)) (List.mem_of_getElem? (i := 2) rfl)) rfl
theorem ms_3 : Cond.selects "DrawerGloves$Makings" (⟨"DrawerGloves$Makings", "weighWith", "(II)V"⟩ : MethodName) ⟨"DrawerGloves$Makings", "weighWith", "(II)V"⟩ ∈ gtbl := mg (mp_1 (q := (⟨"DrawerGloves$Makings", "weighWith", "(II)V"⟩, _)) (List.mem_of_getElem? (i := 3) rfl)) rfl
theorem ms_4 : Cond.selects "DrawerGloves$Makings" (⟨"DrawerGloves$Makings", "isSafer", "(LDrawerGloves$Drawer;II)Z"⟩ : MethodName) ⟨"DrawerGloves$Makings", "isSafer", "(LDrawerGloves$Drawer;II)Z"⟩ ∈ gtbl := mg (mp_1 (q := (⟨"DrawerGloves$Makings", "isSafer", "(LDrawerGloves$Drawer;II)Z"⟩, _)) (List.mem_of_getElem? (i := 4) rfl)) rfl
theorem ms_5 : Cond.selects "DrawerGloves$Drawer" (⟨"DrawerGloves$Drawer", "wearFirstPair", "()V"⟩ : MethodName) ⟨"DrawerGloves$Drawer", "wearFirstPair", "()V"⟩ ∈ gtbl := mg (mp_1 (q := (⟨"DrawerGloves$Drawer", "wearFirstPair", "()V"⟩, _)) (List.mem_of_getElem? (i := 5) rfl)) rfl
theorem ms_6 : Cond.selects "DrawerGloves" (⟨"DrawerGloves", "howManyKept", "()I"⟩ : MethodName) ⟨"DrawerGloves", "howManyKept", "()I"⟩ ∈ gtbl := mg (mp_1 (q := (⟨"DrawerGloves", "howManyKept", "()I"⟩, _)) (List.mem_of_getElem? (i := 6) rfl)) rfl
theorem ms_7 : Cond.selects "DrawerGloves" (⟨"DrawerGloves", "refusedPlace", "(II)I"⟩ : MethodName) ⟨"DrawerGloves", "refusedPlace", "(II)I"⟩ ∈ gtbl := mg (mp_1 (q := (⟨"DrawerGloves", "refusedPlace", "(II)I"⟩, _)) (List.mem_of_getElem? (i := 7) rfl)) rfl
theorem ms_8 : Cond.selects "DrawerGloves" (⟨"DrawerGloves", "refusedRow", "(I)I"⟩ : MethodName) ⟨"DrawerGloves", "refusedRow", "(I)I"⟩ ∈ gtbl := mg (mp_1 (q := (⟨"DrawerGloves", "refusedRow", "(I)I"⟩, _)) (List.mem_of_getElem? (i := 8) rfl)) rfl
theorem ms_9 : Cond.selects "DrawerGloves" (⟨"DrawerGloves", "tells", "(I)I"⟩ : MethodName) ⟨"DrawerGloves", "tells", "(I)I"⟩ ∈ gtbl := mg (mp_1 (q := (⟨"DrawerGloves", "tells", "(I)I"⟩, _)) (List.mem_of_getElem? (i := 9) rfl)) rfl
theorem ms_10 : Cond.selects "DrawerGloves" (⟨"DrawerGloves", "refusedText", "(I)I"⟩ : MethodName) ⟨"DrawerGloves", "refusedText", "(I)I"⟩ ∈ gtbl := mg (mp_1 (q := (⟨"DrawerGloves", "refusedText", "(I)I"⟩, _)) (List.mem_of_getElem? (i := 10) rfl)) rfl
theorem ms_11 : Cond.selects "DrawerGloves$Reading" (⟨"DrawerGloves$Reading", "faultOfGlove", "(LDrawerGloves$Rows;II)I"⟩ : MethodName) ⟨"DrawerGloves$Reading", "faultOfGlove", "(LDrawerGloves$Rows;II)I"⟩ ∈ gtbl := mg (mp_1 (q := (⟨"DrawerGloves$Reading", "faultOfGlove", "(LDrawerGloves$Rows;II)I"⟩, _)) (List.mem_of_getElem? (i := 11) rfl)) rfl
theorem ms_12 : Cond.selects "DrawerGloves$Makings" (⟨"DrawerGloves$Makings", "firstMate", "(LDrawerGloves$Drawer;II)I"⟩ : MethodName) ⟨"DrawerGloves$Makings", "firstMate", "(LDrawerGloves$Drawer;II)I"⟩ ∈ gtbl := mg (mp_1 (q := (⟨"DrawerGloves$Makings", "firstMate", "(LDrawerGloves$Drawer;II)I"⟩, _)) (List.mem_of_getElem? (i := 12) rfl)) rfl
theorem ms_13 : Cond.selects "DrawerGloves$Calendar" (⟨"DrawerGloves$Calendar", "gather", "(LDrawerGloves$Drawer;)V"⟩ : MethodName) ⟨"DrawerGloves$Calendar", "gather", "(LDrawerGloves$Drawer;)V"⟩ ∈ gtbl := mg (mp_1 (q := (⟨"DrawerGloves$Calendar", "gather", "(LDrawerGloves$Drawer;)V"⟩, _)) (List.mem_of_getElem? (i := 13) rfl)) rfl
theorem ms_14 : Cond.selects "DrawerGloves" (⟨"DrawerGloves", "refusedGuess", "(II)I"⟩ : MethodName) ⟨"DrawerGloves", "refusedGuess", "(II)I"⟩ ∈ gtbl := mg (mp_1 (q := (⟨"DrawerGloves", "refusedGuess", "(II)I"⟩, _)) (List.mem_of_getElem? (i := 14) rfl)) rfl
theorem ms_15 : Cond.selects "DrawerGloves$Guess" (⟨"DrawerGloves$Guess", "agrees", "(LDrawerGloves$Drawer;LDrawerGloves$Rows;I)Z"⟩ : MethodName) ⟨"DrawerGloves$Guess", "agrees", "(LDrawerGloves$Drawer;LDrawerGloves$Rows;I)Z"⟩ ∈ gtbl := mg (mp_1 (q := (⟨"DrawerGloves$Guess", "agrees", "(LDrawerGloves$Drawer;LDrawerGloves$Rows;I)Z"⟩, _)) (List.mem_of_getElem? (i := 15) rfl)) rfl
theorem ms_16 : Cond.selects "DrawerGloves$Guess" (⟨"DrawerGloves$Guess", "howManyLike", "(II)I"⟩ : MethodName) ⟨"DrawerGloves$Guess", "howManyLike", "(II)I"⟩ ∈ gtbl := mg (mp_2 (q := (⟨"DrawerGloves$Guess", "howManyLike", "(II)I"⟩, _)) (List.mem_of_getElem? (i := 0) rfl)) rfl
theorem ms_17 : Cond.selects "DrawerGloves$Chances" (⟨"DrawerGloves$Chances", "waysTo", "(LDrawerGloves$Drawer;II)J"⟩ : MethodName) ⟨"DrawerGloves$Chances", "waysTo", "(LDrawerGloves$Drawer;II)J"⟩ ∈ gtbl := mg (mp_2 (q := (⟨"DrawerGloves$Chances", "waysTo", "(LDrawerGloves$Drawer;II)J"⟩, _)) (List.mem_of_getElem? (i := 1) rfl)) rfl
theorem ms_18 : Cond.selects "DrawerGloves" (⟨"DrawerGloves", "greatestChange", "(I)I"⟩ : MethodName) ⟨"DrawerGloves", "greatestChange", "(I)I"⟩ ∈ gtbl := mg (mp_2 (q := (⟨"DrawerGloves", "greatestChange", "(I)I"⟩, _)) (List.mem_of_getElem? (i := 2) rfl)) rfl
