section
-- ===== PART A: goes FIRST, ahead of the names: the tables' words, and 'selects' of the private methods out of them =====
/-- a private method of a class that the tables say can be made, by its rows of tables_1 -/
def lw_okq (q : MethodName × Nat) : Prop := (q.1.cls ≠ "java/lang/invoke/MethodHandle" ∧ q.1.cls ≠ "java/lang/invoke/VarHandle") ∧ Cond.instantiable q.1.cls q.2 ∈ tables_1 ∧ Cond.privateMethod q.1 ∈ tables_1 ∧ Cond.instanceMethod q.1 ∈ tables_1
theorem lw_p0 : lw_okq (⟨"DrawerGloves", "finds", "(I)I"⟩, 13) := ⟨⟨by decide +kernel, by decide +kernel⟩, List.mem_of_getElem? (i := 17) (by decide +kernel), List.mem_of_getElem? (i := 320) (by decide +kernel), List.mem_of_getElem? (i := 321) (by decide +kernel)⟩
theorem lw_p1 : lw_okq (⟨"DrawerGloves", "refusedPlace", "(II)I"⟩, 13) := ⟨⟨by decide +kernel, by decide +kernel⟩, List.mem_of_getElem? (i := 17) (by decide +kernel), List.mem_of_getElem? (i := 333) (by decide +kernel), List.mem_of_getElem? (i := 334) (by decide +kernel)⟩
theorem lw_p2 : lw_okq (⟨"DrawerGloves", "refusedRow", "(I)I"⟩, 13) := ⟨⟨by decide +kernel, by decide +kernel⟩, List.mem_of_getElem? (i := 17) (by decide +kernel), List.mem_of_getElem? (i := 337) (by decide +kernel), List.mem_of_getElem? (i := 338) (by decide +kernel)⟩
theorem lw_p3 : lw_okq (⟨"DrawerGloves", "tells", "(I)I"⟩, 13) := ⟨⟨by decide +kernel, by decide +kernel⟩, List.mem_of_getElem? (i := 17) (by decide +kernel), List.mem_of_getElem? (i := 362) (by decide +kernel), List.mem_of_getElem? (i := 363) (by decide +kernel)⟩
theorem lw_p4 : lw_okq (⟨"DrawerGloves", "refusedText", "(I)I"⟩, 13) := ⟨⟨by decide +kernel, by decide +kernel⟩, List.mem_of_getElem? (i := 17) (by decide +kernel), List.mem_of_getElem? (i := 412) (by decide +kernel), List.mem_of_getElem? (i := 413) (by decide +kernel)⟩
theorem lw_p5 : lw_okq (⟨"DrawerGloves$Reading", "faultOfGlove", "(LDrawerGloves$Rows;II)I"⟩, 6) := ⟨⟨by decide +kernel, by decide +kernel⟩, List.mem_of_getElem? (i := 50) (by decide +kernel), List.mem_of_getElem? (i := 433) (by decide +kernel), List.mem_of_getElem? (i := 434) (by decide +kernel)⟩
theorem lw_p6 : lw_okq (⟨"DrawerGloves$Drawer", "carryOut", "(III)V"⟩, 4) := ⟨⟨by decide +kernel, by decide +kernel⟩, List.mem_of_getElem? (i := 81) (by decide +kernel), List.mem_of_getElem? (i := 452) (by decide +kernel), List.mem_of_getElem? (i := 453) (by decide +kernel)⟩
theorem lw_p7 : lw_okq (⟨"DrawerGloves$Glove", "goesOn", "(I)Z"⟩, 6) := ⟨⟨by decide +kernel, by decide +kernel⟩, List.mem_of_getElem? (i := 104) (by decide +kernel), List.mem_of_getElem? (i := 500) (by decide +kernel), List.mem_of_getElem? (i := 501) (by decide +kernel)⟩
theorem lw_p8 : lw_okq (⟨"DrawerGloves$Makings", "weighWith", "(II)V"⟩, 4) := ⟨⟨by decide +kernel, by decide +kernel⟩, List.mem_of_getElem? (i := 173) (by decide +kernel), List.mem_of_getElem? (i := 614) (by decide +kernel), List.mem_of_getElem? (i := 615) (by decide +kernel)⟩
theorem lw_p9 : lw_okq (⟨"DrawerGloves$Makings", "firstMate", "(LDrawerGloves$Drawer;II)I"⟩, 4) := ⟨⟨by decide +kernel, by decide +kernel⟩, List.mem_of_getElem? (i := 173) (by decide +kernel), List.mem_of_getElem? (i := 630) (by decide +kernel), List.mem_of_getElem? (i := 631) (by decide +kernel)⟩
theorem lw_p10 : lw_okq (⟨"DrawerGloves", "greatestChange", "(I)I"⟩, 13) := ⟨⟨by decide +kernel, by decide +kernel⟩, List.mem_of_getElem? (i := 17) (by decide +kernel), List.mem_of_getElem? (i := 639) (by decide +kernel), List.mem_of_getElem? (i := 640) (by decide +kernel)⟩
theorem lw_p11 : lw_okq (⟨"DrawerGloves$Calendar", "gather", "(LDrawerGloves$Drawer;)V"⟩, 7) := ⟨⟨by decide +kernel, by decide +kernel⟩, List.mem_of_getElem? (i := 196) (by decide +kernel), List.mem_of_getElem? (i := 656) (by decide +kernel), List.mem_of_getElem? (i := 657) (by decide +kernel)⟩
theorem lw_p12 : lw_okq (⟨"DrawerGloves$Makings", "isSafer", "(LDrawerGloves$Drawer;II)Z"⟩, 4) := ⟨⟨by decide +kernel, by decide +kernel⟩, List.mem_of_getElem? (i := 173) (by decide +kernel), List.mem_of_getElem? (i := 678) (by decide +kernel), List.mem_of_getElem? (i := 679) (by decide +kernel)⟩
theorem lw_p13 : lw_okq (⟨"DrawerGloves", "refusedGuess", "(II)I"⟩, 13) := ⟨⟨by decide +kernel, by decide +kernel⟩, List.mem_of_getElem? (i := 17) (by decide +kernel), List.mem_of_getElem? (i := 698) (by decide +kernel), List.mem_of_getElem? (i := 699) (by decide +kernel)⟩
theorem lw_p14 : lw_okq (⟨"DrawerGloves$Guess", "agrees", "(LDrawerGloves$Drawer;LDrawerGloves$Rows;I)Z"⟩, 2) := ⟨⟨by decide +kernel, by decide +kernel⟩, List.mem_of_getElem? (i := 226) (by decide +kernel), List.mem_of_getElem? (i := 713) (by decide +kernel), List.mem_of_getElem? (i := 714) (by decide +kernel)⟩
theorem lw_p15 : lw_okq (⟨"DrawerGloves$Guess", "howManyLike", "(II)I"⟩, 2) := ⟨⟨by decide +kernel, by decide +kernel⟩, List.mem_of_getElem? (i := 226) (by decide +kernel), List.mem_of_getElem? (i := 745) (by decide +kernel), List.mem_of_getElem? (i := 746) (by decide +kernel)⟩
def lw_privs_1 : List (MethodName × Nat) := [(⟨"DrawerGloves", "finds", "(I)I"⟩, 13), (⟨"DrawerGloves", "refusedPlace", "(II)I"⟩, 13), (⟨"DrawerGloves", "refusedRow", "(I)I"⟩, 13), (⟨"DrawerGloves", "tells", "(I)I"⟩, 13), (⟨"DrawerGloves", "refusedText", "(I)I"⟩, 13), (⟨"DrawerGloves$Reading", "faultOfGlove", "(LDrawerGloves$Rows;II)I"⟩, 6), (⟨"DrawerGloves$Drawer", "carryOut", "(III)V"⟩, 4), (⟨"DrawerGloves$Glove", "goesOn", "(I)Z"⟩, 6), (⟨"DrawerGloves$Makings", "weighWith", "(II)V"⟩, 4), (⟨"DrawerGloves$Makings", "firstMate", "(LDrawerGloves$Drawer;II)I"⟩, 4), (⟨"DrawerGloves", "greatestChange", "(I)I"⟩, 13), (⟨"DrawerGloves$Calendar", "gather", "(LDrawerGloves$Drawer;)V"⟩, 7), (⟨"DrawerGloves$Makings", "isSafer", "(LDrawerGloves$Drawer;II)Z"⟩, 4), (⟨"DrawerGloves", "refusedGuess", "(II)I"⟩, 13), (⟨"DrawerGloves$Guess", "agrees", "(LDrawerGloves$Drawer;LDrawerGloves$Rows;I)Z"⟩, 2), (⟨"DrawerGloves$Guess", "howManyLike", "(II)I"⟩, 2)]
theorem lw_r1 : ∀ q ∈ lw_privs_1, lw_okq q := List.forall_mem_cons.mpr ⟨lw_p0, List.forall_mem_cons.mpr ⟨lw_p1, List.forall_mem_cons.mpr ⟨lw_p2, List.forall_mem_cons.mpr ⟨lw_p3, List.forall_mem_cons.mpr ⟨lw_p4, List.forall_mem_cons.mpr ⟨lw_p5, List.forall_mem_cons.mpr ⟨lw_p6, List.forall_mem_cons.mpr ⟨lw_p7, List.forall_mem_cons.mpr ⟨lw_p8, List.forall_mem_cons.mpr ⟨lw_p9, List.forall_mem_cons.mpr ⟨lw_p10, List.forall_mem_cons.mpr ⟨lw_p11, List.forall_mem_cons.mpr ⟨lw_p12, List.forall_mem_cons.mpr ⟨lw_p13, List.forall_mem_cons.mpr ⟨lw_p14, List.forall_mem_cons.mpr ⟨lw_p15, fun _ h => absurd h List.not_mem_nil⟩⟩⟩⟩⟩⟩⟩⟩⟩⟩⟩⟩⟩⟩⟩⟩
theorem lw_p16 : lw_okq (⟨"DrawerGloves$Chances", "waysTo", "(LDrawerGloves$Drawer;II)J"⟩, 3) := ⟨⟨by decide +kernel, by decide +kernel⟩, List.mem_of_getElem? (i := 254) (by decide +kernel), List.mem_of_getElem? (i := 787) (by decide +kernel), List.mem_of_getElem? (i := 788) (by decide +kernel)⟩
theorem lw_p17 : lw_okq (⟨"DrawerGloves$Drawer", "wearFirstPair", "()V"⟩, 4) := ⟨⟨by decide +kernel, by decide +kernel⟩, List.mem_of_getElem? (i := 81) (by decide +kernel), List.mem_of_getElem? (i := 812) (by decide +kernel), List.mem_of_getElem? (i := 813) (by decide +kernel)⟩
theorem lw_p18 : lw_okq (⟨"DrawerGloves", "howManyKept", "()I"⟩, 13) := ⟨⟨by decide +kernel, by decide +kernel⟩, List.mem_of_getElem? (i := 17) (by decide +kernel), List.mem_of_getElem? (i := 846) (by decide +kernel), List.mem_of_getElem? (i := 847) (by decide +kernel)⟩
theorem lw_p19 : lw_okq (⟨"DrawerGlovesModel", "refuse", "(I)I"⟩, 36) := ⟨⟨by decide +kernel, by decide +kernel⟩, List.mem_of_getElem? (i := 870) (by decide +kernel), List.mem_of_getElem? (i := 996) (by decide +kernel), List.mem_of_getElem? (i := 997) (by decide +kernel)⟩
theorem lw_p20 : lw_okq (⟨"DrawerGlovesModel", "clearRow", "(II)V"⟩, 36) := ⟨⟨by decide +kernel, by decide +kernel⟩, List.mem_of_getElem? (i := 870) (by decide +kernel), List.mem_of_getElem? (i := 1000) (by decide +kernel), List.mem_of_getElem? (i := 1001) (by decide +kernel)⟩
theorem lw_p21 : lw_okq (⟨"DrawerGlovesModel", "tellsAsked", "(I)I"⟩, 36) := ⟨⟨by decide +kernel, by decide +kernel⟩, List.mem_of_getElem? (i := 870) (by decide +kernel), List.mem_of_getElem? (i := 1008) (by decide +kernel), List.mem_of_getElem? (i := 1009) (by decide +kernel)⟩
theorem lw_p22 : lw_okq (⟨"DrawerGlovesModel", "read", "(I)V"⟩, 36) := ⟨⟨by decide +kernel, by decide +kernel⟩, List.mem_of_getElem? (i := 870) (by decide +kernel), List.mem_of_getElem? (i := 1043) (by decide +kernel), List.mem_of_getElem? (i := 1044) (by decide +kernel)⟩
theorem lw_p23 : lw_okq (⟨"DrawerGlovesModel", "skip", "()V"⟩, 36) := ⟨⟨by decide +kernel, by decide +kernel⟩, List.mem_of_getElem? (i := 870) (by decide +kernel), List.mem_of_getElem? (i := 1047) (by decide +kernel), List.mem_of_getElem? (i := 1048) (by decide +kernel)⟩
theorem lw_p24 : lw_okq (⟨"DrawerGlovesModel", "here", "()I"⟩, 36) := ⟨⟨by decide +kernel, by decide +kernel⟩, List.mem_of_getElem? (i := 870) (by decide +kernel), List.mem_of_getElem? (i := 1051) (by decide +kernel), List.mem_of_getElem? (i := 1052) (by decide +kernel)⟩
theorem lw_p25 : lw_okq (⟨"DrawerGlovesModel", "figure", "(II)I"⟩, 36) := ⟨⟨by decide +kernel, by decide +kernel⟩, List.mem_of_getElem? (i := 870) (by decide +kernel), List.mem_of_getElem? (i := 1055) (by decide +kernel), List.mem_of_getElem? (i := 1056) (by decide +kernel)⟩
theorem lw_p26 : lw_okq (⟨"DrawerGlovesModel", "readGlove", "()V"⟩, 36) := ⟨⟨by decide +kernel, by decide +kernel⟩, List.mem_of_getElem? (i := 870) (by decide +kernel), List.mem_of_getElem? (i := 1059) (by decide +kernel), List.mem_of_getElem? (i := 1060) (by decide +kernel)⟩
theorem lw_p27 : lw_okq (⟨"DrawerGlovesModel", "goThrough", "()V"⟩, 36) := ⟨⟨by decide +kernel, by decide +kernel⟩, List.mem_of_getElem? (i := 870) (by decide +kernel), List.mem_of_getElem? (i := 1070) (by decide +kernel), List.mem_of_getElem? (i := 1071) (by decide +kernel)⟩
theorem lw_p28 : lw_okq (⟨"DrawerGlovesModel", "happen", "(III)V"⟩, 36) := ⟨⟨by decide +kernel, by decide +kernel⟩, List.mem_of_getElem? (i := 870) (by decide +kernel), List.mem_of_getElem? (i := 1074) (by decide +kernel), List.mem_of_getElem? (i := 1075) (by decide +kernel)⟩
theorem lw_p29 : lw_okq (⟨"DrawerGlovesModel", "isGlove", "(I)Z"⟩, 36) := ⟨⟨by decide +kernel, by decide +kernel⟩, List.mem_of_getElem? (i := 870) (by decide +kernel), List.mem_of_getElem? (i := 1082) (by decide +kernel), List.mem_of_getElem? (i := 1083) (by decide +kernel)⟩
theorem lw_p30 : lw_okq (⟨"DrawerGlovesModel", "ofGlove", "(II)I"⟩, 36) := ⟨⟨by decide +kernel, by decide +kernel⟩, List.mem_of_getElem? (i := 870) (by decide +kernel), List.mem_of_getElem? (i := 1086) (by decide +kernel), List.mem_of_getElem? (i := 1087) (by decide +kernel)⟩
theorem lw_p31 : lw_okq (⟨"DrawerGlovesModel", "warmthAs", "(II)I"⟩, 36) := ⟨⟨by decide +kernel, by decide +kernel⟩, List.mem_of_getElem? (i := 870) (by decide +kernel), List.mem_of_getElem? (i := 1090) (by decide +kernel), List.mem_of_getElem? (i := 1091) (by decide +kernel)⟩
def lw_privs_2 : List (MethodName × Nat) := [(⟨"DrawerGloves$Chances", "waysTo", "(LDrawerGloves$Drawer;II)J"⟩, 3), (⟨"DrawerGloves$Drawer", "wearFirstPair", "()V"⟩, 4), (⟨"DrawerGloves", "howManyKept", "()I"⟩, 13), (⟨"DrawerGlovesModel", "refuse", "(I)I"⟩, 36), (⟨"DrawerGlovesModel", "clearRow", "(II)V"⟩, 36), (⟨"DrawerGlovesModel", "tellsAsked", "(I)I"⟩, 36), (⟨"DrawerGlovesModel", "read", "(I)V"⟩, 36), (⟨"DrawerGlovesModel", "skip", "()V"⟩, 36), (⟨"DrawerGlovesModel", "here", "()I"⟩, 36), (⟨"DrawerGlovesModel", "figure", "(II)I"⟩, 36), (⟨"DrawerGlovesModel", "readGlove", "()V"⟩, 36), (⟨"DrawerGlovesModel", "goThrough", "()V"⟩, 36), (⟨"DrawerGlovesModel", "happen", "(III)V"⟩, 36), (⟨"DrawerGlovesModel", "isGlove", "(I)Z"⟩, 36), (⟨"DrawerGlovesModel", "ofGlove", "(II)I"⟩, 36), (⟨"DrawerGlovesModel", "warmthAs", "(II)I"⟩, 36)]
theorem lw_r2 : ∀ q ∈ lw_privs_2, lw_okq q := List.forall_mem_cons.mpr ⟨lw_p16, List.forall_mem_cons.mpr ⟨lw_p17, List.forall_mem_cons.mpr ⟨lw_p18, List.forall_mem_cons.mpr ⟨lw_p19, List.forall_mem_cons.mpr ⟨lw_p20, List.forall_mem_cons.mpr ⟨lw_p21, List.forall_mem_cons.mpr ⟨lw_p22, List.forall_mem_cons.mpr ⟨lw_p23, List.forall_mem_cons.mpr ⟨lw_p24, List.forall_mem_cons.mpr ⟨lw_p25, List.forall_mem_cons.mpr ⟨lw_p26, List.forall_mem_cons.mpr ⟨lw_p27, List.forall_mem_cons.mpr ⟨lw_p28, List.forall_mem_cons.mpr ⟨lw_p29, List.forall_mem_cons.mpr ⟨lw_p30, List.forall_mem_cons.mpr ⟨lw_p31, fun _ h => absurd h List.not_mem_nil⟩⟩⟩⟩⟩⟩⟩⟩⟩⟩⟩⟩⟩⟩⟩⟩
theorem lw_p32 : lw_okq (⟨"DrawerGlovesModel", "pairOf", "(II)I"⟩, 36) := ⟨⟨by decide +kernel, by decide +kernel⟩, List.mem_of_getElem? (i := 870) (by decide +kernel), List.mem_of_getElem? (i := 1101) (by decide +kernel), List.mem_of_getElem? (i := 1102) (by decide +kernel)⟩
theorem lw_p33 : lw_okq (⟨"DrawerGlovesModel", "pairAs", "(IIIII)I"⟩, 36) := ⟨⟨by decide +kernel, by decide +kernel⟩, List.mem_of_getElem? (i := 870) (by decide +kernel), List.mem_of_getElem? (i := 1105) (by decide +kernel), List.mem_of_getElem? (i := 1106) (by decide +kernel)⟩
theorem lw_p34 : lw_okq (⟨"DrawerGlovesModel", "areTwo", "(II)Z"⟩, 36) := ⟨⟨by decide +kernel, by decide +kernel⟩, List.mem_of_getElem? (i := 870) (by decide +kernel), List.mem_of_getElem? (i := 1116) (by decide +kernel), List.mem_of_getElem? (i := 1117) (by decide +kernel)⟩
theorem lw_p35 : lw_okq (⟨"DrawerGlovesModel", "does", "(III)V"⟩, 36) := ⟨⟨by decide +kernel, by decide +kernel⟩, List.mem_of_getElem? (i := 870) (by decide +kernel), List.mem_of_getElem? (i := 1124) (by decide +kernel), List.mem_of_getElem? (i := 1125) (by decide +kernel)⟩
theorem lw_p36 : lw_okq (⟨"DrawerGlovesModel", "inDrawer", "()I"⟩, 36) := ⟨⟨by decide +kernel, by decide +kernel⟩, List.mem_of_getElem? (i := 870) (by decide +kernel), List.mem_of_getElem? (i := 1132) (by decide +kernel), List.mem_of_getElem? (i := 1133) (by decide +kernel)⟩
theorem lw_p37 : lw_okq (⟨"DrawerGlovesModel", "setIn", "(I)I"⟩, 36) := ⟨⟨by decide +kernel, by decide +kernel⟩, List.mem_of_getElem? (i := 870) (by decide +kernel), List.mem_of_getElem? (i := 1136) (by decide +kernel), List.mem_of_getElem? (i := 1137) (by decide +kernel)⟩
theorem lw_p38 : lw_okq (⟨"DrawerGlovesModel", "all", "()I"⟩, 36) := ⟨⟨by decide +kernel, by decide +kernel⟩, List.mem_of_getElem? (i := 870) (by decide +kernel), List.mem_of_getElem? (i := 1167) (by decide +kernel), List.mem_of_getElem? (i := 1168) (by decide +kernel)⟩
theorem lw_p39 : lw_okq (⟨"DrawerGlovesModel", "measure", "()V"⟩, 36) := ⟨⟨by decide +kernel, by decide +kernel⟩, List.mem_of_getElem? (i := 870) (by decide +kernel), List.mem_of_getElem? (i := 1171) (by decide +kernel), List.mem_of_getElem? (i := 1172) (by decide +kernel)⟩
theorem lw_p40 : lw_okq (⟨"DrawerGlovesModel", "listTwos", "()V"⟩, 36) := ⟨⟨by decide +kernel, by decide +kernel⟩, List.mem_of_getElem? (i := 870) (by decide +kernel), List.mem_of_getElem? (i := 1194) (by decide +kernel), List.mem_of_getElem? (i := 1195) (by decide +kernel)⟩
theorem lw_p41 : lw_okq (⟨"DrawerGlovesModel", "useOf", "(I)I"⟩, 36) := ⟨⟨by decide +kernel, by decide +kernel⟩, List.mem_of_getElem? (i := 870) (by decide +kernel), List.mem_of_getElem? (i := 1198) (by decide +kernel), List.mem_of_getElem? (i := 1199) (by decide +kernel)⟩
theorem lw_p42 : lw_okq (⟨"DrawerGlovesModel", "takeOff", "(I)V"⟩, 36) := ⟨⟨by decide +kernel, by decide +kernel⟩, List.mem_of_getElem? (i := 870) (by decide +kernel), List.mem_of_getElem? (i := 1202) (by decide +kernel), List.mem_of_getElem? (i := 1203) (by decide +kernel)⟩
theorem lw_p43 : lw_okq (⟨"DrawerGlovesModel", "worstOf", "(I)I"⟩, 36) := ⟨⟨by decide +kernel, by decide +kernel⟩, List.mem_of_getElem? (i := 870) (by decide +kernel), List.mem_of_getElem? (i := 1210) (by decide +kernel), List.mem_of_getElem? (i := 1211) (by decide +kernel)⟩
theorem lw_p44 : lw_okq (⟨"DrawerGlovesModel", "judge", "(II)I"⟩, 36) := ⟨⟨by decide +kernel, by decide +kernel⟩, List.mem_of_getElem? (i := 870) (by decide +kernel), List.mem_of_getElem? (i := 1222) (by decide +kernel), List.mem_of_getElem? (i := 1223) (by decide +kernel)⟩
theorem lw_p45 : lw_okq (⟨"DrawerGlovesModel", "isSo", "(IIIII)Z"⟩, 36) := ⟨⟨by decide +kernel, by decide +kernel⟩, List.mem_of_getElem? (i := 870) (by decide +kernel), List.mem_of_getElem? (i := 1226) (by decide +kernel), List.mem_of_getElem? (i := 1227) (by decide +kernel)⟩
theorem lw_p46 : lw_okq (⟨"DrawerGlovesModel", "kindsBy", "(II)I"⟩, 36) := ⟨⟨by decide +kernel, by decide +kernel⟩, List.mem_of_getElem? (i := 870) (by decide +kernel), List.mem_of_getElem? (i := 1238) (by decide +kernel), List.mem_of_getElem? (i := 1239) (by decide +kernel)⟩
theorem lw_p47 : lw_okq (⟨"DrawerGlovesModel", "partBy", "(III)I"⟩, 36) := ⟨⟨by decide +kernel, by decide +kernel⟩, List.mem_of_getElem? (i := 870) (by decide +kernel), List.mem_of_getElem? (i := 1246) (by decide +kernel), List.mem_of_getElem? (i := 1247) (by decide +kernel)⟩
def lw_privs_3 : List (MethodName × Nat) := [(⟨"DrawerGlovesModel", "pairOf", "(II)I"⟩, 36), (⟨"DrawerGlovesModel", "pairAs", "(IIIII)I"⟩, 36), (⟨"DrawerGlovesModel", "areTwo", "(II)Z"⟩, 36), (⟨"DrawerGlovesModel", "does", "(III)V"⟩, 36), (⟨"DrawerGlovesModel", "inDrawer", "()I"⟩, 36), (⟨"DrawerGlovesModel", "setIn", "(I)I"⟩, 36), (⟨"DrawerGlovesModel", "all", "()I"⟩, 36), (⟨"DrawerGlovesModel", "measure", "()V"⟩, 36), (⟨"DrawerGlovesModel", "listTwos", "()V"⟩, 36), (⟨"DrawerGlovesModel", "useOf", "(I)I"⟩, 36), (⟨"DrawerGlovesModel", "takeOff", "(I)V"⟩, 36), (⟨"DrawerGlovesModel", "worstOf", "(I)I"⟩, 36), (⟨"DrawerGlovesModel", "judge", "(II)I"⟩, 36), (⟨"DrawerGlovesModel", "isSo", "(IIIII)Z"⟩, 36), (⟨"DrawerGlovesModel", "kindsBy", "(II)I"⟩, 36), (⟨"DrawerGlovesModel", "partBy", "(III)I"⟩, 36)]
theorem lw_r3 : ∀ q ∈ lw_privs_3, lw_okq q := List.forall_mem_cons.mpr ⟨lw_p32, List.forall_mem_cons.mpr ⟨lw_p33, List.forall_mem_cons.mpr ⟨lw_p34, List.forall_mem_cons.mpr ⟨lw_p35, List.forall_mem_cons.mpr ⟨lw_p36, List.forall_mem_cons.mpr ⟨lw_p37, List.forall_mem_cons.mpr ⟨lw_p38, List.forall_mem_cons.mpr ⟨lw_p39, List.forall_mem_cons.mpr ⟨lw_p40, List.forall_mem_cons.mpr ⟨lw_p41, List.forall_mem_cons.mpr ⟨lw_p42, List.forall_mem_cons.mpr ⟨lw_p43, List.forall_mem_cons.mpr ⟨lw_p44, List.forall_mem_cons.mpr ⟨lw_p45, List.forall_mem_cons.mpr ⟨lw_p46, List.forall_mem_cons.mpr ⟨lw_p47, fun _ h => absurd h List.not_mem_nil⟩⟩⟩⟩⟩⟩⟩⟩⟩⟩⟩⟩⟩⟩⟩⟩
theorem lw_p48 : lw_okq (⟨"DrawerGlovesModel", "hasOf", "(II)I"⟩, 36) := ⟨⟨by decide +kernel, by decide +kernel⟩, List.mem_of_getElem? (i := 870) (by decide +kernel), List.mem_of_getElem? (i := 1257) (by decide +kernel), List.mem_of_getElem? (i := 1258) (by decide +kernel)⟩
theorem lw_p49 : lw_okq (⟨"DrawerGlovesModel", "bestTurn", "(III)I"⟩, 36) := ⟨⟨by decide +kernel, by decide +kernel⟩, List.mem_of_getElem? (i := 870) (by decide +kernel), List.mem_of_getElem? (i := 1261) (by decide +kernel), List.mem_of_getElem? (i := 1262) (by decide +kernel)⟩
theorem lw_p50 : lw_okq (⟨"DrawerGlovesModel", "waysOf", "(IIII)J"⟩, 36) := ⟨⟨by decide +kernel, by decide +kernel⟩, List.mem_of_getElem? (i := 870) (by decide +kernel), List.mem_of_getElem? (i := 1272) (by decide +kernel), List.mem_of_getElem? (i := 1273) (by decide +kernel)⟩
theorem lw_p51 : lw_okq (⟨"DrawerGlovesModel", "lossOf", "(III)I"⟩, 36) := ⟨⟨by decide +kernel, by decide +kernel⟩, List.mem_of_getElem? (i := 870) (by decide +kernel), List.mem_of_getElem? (i := 1276) (by decide +kernel), List.mem_of_getElem? (i := 1277) (by decide +kernel)⟩
theorem lw_p52 : lw_okq (⟨"DrawerGlovesModel", "allWays", "(I)J"⟩, 36) := ⟨⟨by decide +kernel, by decide +kernel⟩, List.mem_of_getElem? (i := 870) (by decide +kernel), List.mem_of_getElem? (i := 1280) (by decide +kernel), List.mem_of_getElem? (i := 1281) (by decide +kernel)⟩
theorem lw_p53 : lw_okq (⟨"DrawerGlovesModel", "tellPart", "(JJ)V"⟩, 36) := ⟨⟨by decide +kernel, by decide +kernel⟩, List.mem_of_getElem? (i := 870) (by decide +kernel), List.mem_of_getElem? (i := 1285) (by decide +kernel), List.mem_of_getElem? (i := 1286) (by decide +kernel)⟩
def lw_privs_4 : List (MethodName × Nat) := [(⟨"DrawerGlovesModel", "hasOf", "(II)I"⟩, 36), (⟨"DrawerGlovesModel", "bestTurn", "(III)I"⟩, 36), (⟨"DrawerGlovesModel", "waysOf", "(IIII)J"⟩, 36), (⟨"DrawerGlovesModel", "lossOf", "(III)I"⟩, 36), (⟨"DrawerGlovesModel", "allWays", "(I)J"⟩, 36), (⟨"DrawerGlovesModel", "tellPart", "(JJ)V"⟩, 36)]
theorem lw_r4 : ∀ q ∈ lw_privs_4, lw_okq q := List.forall_mem_cons.mpr ⟨lw_p48, List.forall_mem_cons.mpr ⟨lw_p49, List.forall_mem_cons.mpr ⟨lw_p50, List.forall_mem_cons.mpr ⟨lw_p51, List.forall_mem_cons.mpr ⟨lw_p52, List.forall_mem_cons.mpr ⟨lw_p53, fun _ h => absurd h List.not_mem_nil⟩⟩⟩⟩⟩⟩
def lw_privs : List (MethodName × Nat) := lw_privs_1 ++ (lw_privs_2 ++ (lw_privs_3 ++ (lw_privs_4)))
def lw_tbl : List Cond := k2_sels lw_privs ++ tables_1
theorem lw_privs_ok : ∀ q ∈ lw_privs, lw_okq q := by
  show ∀ q ∈ lw_privs_1 ++ (lw_privs_2 ++ (lw_privs_3 ++ (lw_privs_4))), lw_okq q
  exact List.forall_mem_append.mpr ⟨lw_r1, List.forall_mem_append.mpr ⟨lw_r2, List.forall_mem_append.mpr ⟨lw_r3, lw_r4⟩⟩⟩
-- ===== end of PART A; then your names; then what follows =====
def RX0 : String := "DrawerGloves$Calendar"
def TX0 : u_T := fun k => match k with
  | 0 => ("DrawerGloves$Calendar", "worn", "LDrawerGloves$Drawer;", true)
  | 1 => ("DrawerGloves$Calendar", "codes", "[I", true)
  | 2 => ("DrawerGloves$Calendar", "way", "[I", true)
  | 3 => ("DrawerGloves$Calendar", "bestWay", "[I", true)
  | 4 => ("DrawerGloves$Calendar", "size", "I", false)
  | 5 => ("DrawerGloves$Calendar", "dearest", "I", false)
  | _ => ("DrawerGloves$Calendar", "best", "I", false)
def tyX0 : Nat → FieldType := fun k => match k with
  | 0 => .object "DrawerGloves$Drawer"
  | 1 => .array .int
  | 2 => .array .int
  | 3 => .array .int
  | 4 => .int
  | 5 => .int
  | _ => .int
theorem nmX0 : ∀ a, a < 7 → ∀ b, b < 7 → a ≠ b → (TX0 a).2.1 ≠ (TX0 b).2.1 := by decide +kernel
theorem tyX0_ok : ∀ k, k < 7 → parseFieldDescriptor (TX0 k).2.2.1 = some (tyX0 k) := by decide +kernel
abbrev cX0_init : ByteArray := prog_2_method_1_code
def yX0_init : MethodName := ⟨RX0, "<init>", "()V"⟩
abbrev cX0_plan : ByteArray := prog_2_method_2_code
def yX0_plan : MethodName := ⟨RX0, "plan", "(LDrawerGloves$Drawer;ILDrawerGloves$Rows;I)I"⟩
abbrev cX0_gather : ByteArray := prog_2_method_3_code
def yX0_gather : MethodName := ⟨RX0, "gather", "(LDrawerGloves$Drawer;)V"⟩
abbrev cX0_search : ByteArray := prog_2_method_4_code
def yX0_search : MethodName := ⟨RX0, "search", "(LDrawerGloves$Calendar;III)V"⟩
def RX1 : String := "DrawerGloves$Chances"
def TX1 : u_T := fun k => match k with
  | 0 => ("DrawerGloves$Chances", "loss", "[I", true)
  | 1 => ("DrawerGloves$Chances", "upper", "J", false)
  | _ => ("DrawerGloves$Chances", "lower", "J", false)
def tyX1 : Nat → FieldType := fun k => match k with
  | 0 => .array .int
  | 1 => .long
  | _ => .long
theorem nmX1 : ∀ a, a < 3 → ∀ b, b < 3 → a ≠ b → (TX1 a).2.1 ≠ (TX1 b).2.1 := by decide +kernel
theorem tyX1_ok : ∀ k, k < 3 → parseFieldDescriptor (TX1 k).2.2.1 = some (tyX1 k) := by decide +kernel
abbrev cX1_init : ByteArray := prog_3_method_1_code
def yX1_init : MethodName := ⟨RX1, "<init>", "()V"⟩
abbrev cX1_reckon : ByteArray := prog_3_method_2_code
def yX1_reckon : MethodName := ⟨RX1, "reckon", "(LDrawerGloves$Drawer;II[I)V"⟩
abbrev cX1_lossOf : ByteArray := prog_3_method_3_code
def yX1_lossOf : MethodName := ⟨RX1, "lossOf", "(LDrawerGloves$Glove;II)I"⟩
abbrev cX1_waysTo : ByteArray := prog_3_method_4_code
def yX1_waysTo : MethodName := ⟨RX1, "waysTo", "(LDrawerGloves$Drawer;II)J"⟩
abbrev cX1_commonDivisor : ByteArray := prog_3_method_5_code
def yX1_commonDivisor : MethodName := ⟨RX1, "commonDivisor", "(JJ)J"⟩
def RX2 : String := "DrawerGloves$Deeds"
def TX2 : u_T := fun k => match k with
  | 0 => ("DrawerGloves$Deeds", "codes", "[I", true)
  | _ => ("DrawerGloves$Deeds", "size", "I", false)
def tyX2 : Nat → FieldType := fun k => match k with
  | 0 => .array .int
  | _ => .int
theorem nmX2 : ∀ a, a < 2 → ∀ b, b < 2 → a ≠ b → (TX2 a).2.1 ≠ (TX2 b).2.1 := by decide +kernel
theorem tyX2_ok : ∀ k, k < 2 → parseFieldDescriptor (TX2 k).2.2.1 = some (tyX2 k) := by decide +kernel
abbrev cX2_init : ByteArray := prog_4_method_1_code
def yX2_init : MethodName := ⟨RX2, "<init>", "()V"⟩
abbrev cX2_roomLeft : ByteArray := prog_4_method_2_code
def yX2_roomLeft : MethodName := ⟨RX2, "roomLeft", "()I"⟩
abbrev cX2_add : ByteArray := prog_4_method_3_code
def yX2_add : MethodName := ⟨RX2, "add", "(III)V"⟩
abbrev cX2_becomeLike : ByteArray := prog_4_method_4_code
def yX2_becomeLike : MethodName := ⟨RX2, "becomeLike", "(LDrawerGloves$Deeds;)V"⟩
def RX3 : String := "DrawerGloves$Drawer"
def TX3 : u_T := fun k => match k with
  | 0 => ("DrawerGloves$Drawer", "gloves", "[LDrawerGloves$Glove;", true)
  | 1 => ("DrawerGloves$Drawer", "deeds", "LDrawerGloves$Deeds;", true)
  | 2 => ("DrawerGloves$Drawer", "size", "I", false)
  | _ => ("DrawerGloves$Drawer", "room", "I", false)
def tyX3 : Nat → FieldType := fun k => match k with
  | 0 => .array (.object "DrawerGloves$Glove")
  | 1 => .object "DrawerGloves$Deeds"
  | 2 => .int
  | _ => .int
theorem nmX3 : ∀ a, a < 4 → ∀ b, b < 4 → a ≠ b → (TX3 a).2.1 ≠ (TX3 b).2.1 := by decide +kernel
theorem tyX3_ok : ∀ k, k < 4 → parseFieldDescriptor (TX3 k).2.2.1 = some (tyX3 k) := by decide +kernel
abbrev cX3_init : ByteArray := prog_5_method_1_code
def yX3_init : MethodName := ⟨RX3, "<init>", "()V"⟩
abbrev cX3_fill : ByteArray := prog_5_method_2_code
def yX3_fill : MethodName := ⟨RX3, "fill", "(LDrawerGloves$Reading;)V"⟩
abbrev cX3_has : ByteArray := prog_5_method_3_code
def yX3_has : MethodName := ⟨RX3, "has", "(I)Z"⟩
abbrev cX3_isSet : ByteArray := prog_5_method_4_code
def yX3_isSet : MethodName := ⟨RX3, "isSet", "(I)Z"⟩
abbrev cX3_isInside : ByteArray := prog_5_method_5_code
def yX3_isInside : MethodName := ⟨RX3, "isInside", "(I)Z"⟩
abbrev cX3_canBeLost : ByteArray := prog_5_method_6_code
def yX3_canBeLost : MethodName := ⟨RX3, "canBeLost", "(I)Z"⟩
abbrev cX3_setOf : ByteArray := prog_5_method_7_code
def yX3_setOf : MethodName := ⟨RX3, "setOf", "(I)I"⟩
abbrev cX3_howManyInside : ByteArray := prog_5_method_8_code
def yX3_howManyInside : MethodName := ⟨RX3, "howManyInside", "()I"⟩
abbrev cX3_hasRoom : ByteArray := prog_5_method_9_code
def yX3_hasRoom : MethodName := ⟨RX3, "hasRoom", "()Z"⟩
abbrev cX3_allWear : ByteArray := prog_5_method_10_code
def yX3_allWear : MethodName := ⟨RX3, "allWear", "()I"⟩
abbrev cX3_howManyOf : ByteArray := prog_5_method_11_code
def yX3_howManyOf : MethodName := ⟨RX3, "howManyOf", "(I)I"⟩
abbrev cX3_matesOf : ByteArray := prog_5_method_12_code
def yX3_matesOf : MethodName := ⟨RX3, "matesOf", "(I)I"⟩
abbrev cX3_sameSortAs : ByteArray := prog_5_method_13_code
def yX3_sameSortAs : MethodName := ⟨RX3, "sameSortAs", "(I)I"⟩
abbrev cX3_act : ByteArray := prog_5_method_14_code
def yX3_act : MethodName := ⟨RX3, "act", "(III)V"⟩
abbrev cX3_actByLot : ByteArray := prog_5_method_15_code
def yX3_actByLot : MethodName := ⟨RX3, "actByLot", "(J)V"⟩
abbrev cX3_wearFirstPair : ByteArray := prog_5_method_16_code
def yX3_wearFirstPair : MethodName := ⟨RX3, "wearFirstPair", "()V"⟩
abbrev cX3_replay : ByteArray := prog_5_method_17_code
def yX3_replay : MethodName := ⟨RX3, "replay", "()V"⟩
abbrev cX3_carryOut : ByteArray := prog_5_method_18_code
def yX3_carryOut : MethodName := ⟨RX3, "carryOut", "(III)V"⟩
def RX4 : String := "DrawerGloves$Glove"
def TX4 : u_T := fun k => match k with
  | 0 => ("DrawerGloves$Glove", "kind", "I", false)
  | 1 => ("DrawerGloves$Glove", "sort", "I", false)
  | 2 => ("DrawerGloves$Glove", "hand", "I", false)
  | 3 => ("DrawerGloves$Glove", "warm", "I", false)
  | 4 => ("DrawerGloves$Glove", "wear", "I", false)
  | _ => ("DrawerGloves$Glove", "where", "I", false)
def tyX4 : Nat → FieldType := fun k => match k with
  | 0 => .int
  | 1 => .int
  | 2 => .int
  | 3 => .int
  | 4 => .int
  | _ => .int
theorem nmX4 : ∀ a, a < 6 → ∀ b, b < 6 → a ≠ b → (TX4 a).2.1 ≠ (TX4 b).2.1 := by decide +kernel
theorem tyX4_ok : ∀ k, k < 6 → parseFieldDescriptor (TX4 k).2.2.1 = some (tyX4 k) := by decide +kernel
abbrev cX4_init : ByteArray := prog_6_method_1_code
def yX4_init : MethodName := ⟨RX4, "<init>", "()V"⟩
abbrev cX4_becomeLike : ByteArray := prog_6_method_2_code
def yX4_becomeLike : MethodName := ⟨RX4, "becomeLike", "(LDrawerGloves$Glove;)V"⟩
abbrev cX4_isOf : ByteArray := prog_6_method_3_code
def yX4_isOf : MethodName := ⟨RX4, "isOf", "(I)Z"⟩
abbrev cX4_bareWarmth : ByteArray := prog_6_method_4_code
def yX4_bareWarmth : MethodName := ⟨RX4, "bareWarmth", "()I"⟩
abbrev cX4_warmth : ByteArray := prog_6_method_5_code
def yX4_warmth : MethodName := ⟨RX4, "warmth", "()I"⟩
abbrev cX4_goesOn : ByteArray := prog_6_method_6_code
def yX4_goesOn : MethodName := ⟨RX4, "goesOn", "(I)Z"⟩
abbrev cX4_makesPairWith : ByteArray := prog_6_method_7_code
def yX4_makesPairWith : MethodName := ⟨RX4, "makesPairWith", "(LDrawerGloves$Glove;)Z"⟩
abbrev cX4_goodWith : ByteArray := prog_6_method_8_code
def yX4_goodWith : MethodName := ⟨RX4, "goodWith", "(LDrawerGloves$Glove;)I"⟩
abbrev cX4_tell : ByteArray := prog_6_method_9_code
def yX4_tell : MethodName := ⟨RX4, "tell", "(I)I"⟩
def RX5 : String := "DrawerGloves$Guess"
def TX5 : u_T := fun k => match k with
  | 0 => ("DrawerGloves$Guess", "maybe", "LDrawerGloves$Glove;", true)
  | _ => ("DrawerGloves$Guess", "outcome", "[I", true)
def tyX5 : Nat → FieldType := fun k => match k with
  | 0 => .object "DrawerGloves$Glove"
  | _ => .array .int
theorem nmX5 : ∀ a, a < 2 → ∀ b, b < 2 → a ≠ b → (TX5 a).2.1 ≠ (TX5 b).2.1 := by decide +kernel
theorem tyX5_ok : ∀ k, k < 2 → parseFieldDescriptor (TX5 k).2.2.1 = some (tyX5 k) := by decide +kernel
abbrev cX5_init : ByteArray := prog_7_method_1_code
def yX5_init : MethodName := ⟨RX5, "<init>", "()V"⟩
abbrev cX5_isWellTold : ByteArray := prog_7_method_2_code
def yX5_isWellTold : MethodName := ⟨RX5, "isWellTold", "(LDrawerGloves$Drawer;ILDrawerGloves$Rows;I)Z"⟩
abbrev cX5_agrees : ByteArray := prog_7_method_3_code
def yX5_agrees : MethodName := ⟨RX5, "agrees", "(LDrawerGloves$Drawer;LDrawerGloves$Rows;I)Z"⟩
abbrev cX5_sortsLeft : ByteArray := prog_7_method_4_code
def yX5_sortsLeft : MethodName := ⟨RX5, "sortsLeft", "(LDrawerGloves$Drawer;ILDrawerGloves$Rows;I)I"⟩
abbrev cX5_handsLeft : ByteArray := prog_7_method_5_code
def yX5_handsLeft : MethodName := ⟨RX5, "handsLeft", "(LDrawerGloves$Drawer;ILDrawerGloves$Rows;I)I"⟩
abbrev cX5_kindsLeft : ByteArray := prog_7_method_6_code
def yX5_kindsLeft : MethodName := ⟨RX5, "kindsLeft", "(LDrawerGloves$Drawer;ILDrawerGloves$Rows;I)I"⟩
abbrev cX5_nextTry : ByteArray := prog_7_method_7_code
def yX5_nextTry : MethodName := ⟨RX5, "nextTry", "(LDrawerGloves$Drawer;II)I"⟩
abbrev cX5_greatestPart : ByteArray := prog_7_method_8_code
def yX5_greatestPart : MethodName := ⟨RX5, "greatestPart", "(LDrawerGloves$Drawer;III)I"⟩
abbrev cX5_howManyLike : ByteArray := prog_7_method_9_code
def yX5_howManyLike : MethodName := ⟨RX5, "howManyLike", "(II)I"⟩
abbrev cX5_gainOfStretch : ByteArray := prog_7_method_10_code
def yX5_gainOfStretch : MethodName := ⟨RX5, "gainOfStretch", "(LDrawerGloves$Drawer;I)I"⟩
def RX6 : String := "DrawerGloves$Makings"
def TX6 : u_T := fun k => match k with
  | 0 => ("DrawerGloves$Makings", "worth", "[I", true)
  | 1 => ("DrawerGloves$Makings", "best", "[I", true)
  | 2 => ("DrawerGloves$Makings", "most", "[I", true)
  | _ => ("DrawerGloves$Makings", "enough", "[I", true)
def tyX6 : Nat → FieldType := fun k => match k with
  | 0 => .array .int
  | 1 => .array .int
  | 2 => .array .int
  | _ => .array .int
theorem nmX6 : ∀ a, a < 4 → ∀ b, b < 4 → a ≠ b → (TX6 a).2.1 ≠ (TX6 b).2.1 := by decide +kernel
theorem tyX6_ok : ∀ k, k < 4 → parseFieldDescriptor (TX6 k).2.2.1 = some (tyX6 k) := by decide +kernel
abbrev cX6_init : ByteArray := prog_8_method_1_code
def yX6_init : MethodName := ⟨RX6, "<init>", "()V"⟩
abbrev cX6_weigh : ByteArray := prog_8_method_2_code
def yX6_weigh : MethodName := ⟨RX6, "weigh", "(LDrawerGloves$Drawer;)V"⟩
abbrev cX6_weighWith : ByteArray := prog_8_method_3_code
def yX6_weighWith : MethodName := ⟨RX6, "weighWith", "(II)V"⟩
abbrev cX6_partTo : ByteArray := prog_8_method_4_code
def yX6_partTo : MethodName := ⟨RX6, "partTo", "(LDrawerGloves$Drawer;LDrawerGloves$Rows;I)V"⟩
abbrev cX6_firstMate : ByteArray := prog_8_method_5_code
def yX6_firstMate : MethodName := ⟨RX6, "firstMate", "(LDrawerGloves$Drawer;II)I"⟩
abbrev cX6_safestSet : ByteArray := prog_8_method_6_code
def yX6_safestSet : MethodName := ⟨RX6, "safestSet", "(LDrawerGloves$Drawer;)I"⟩
abbrev cX6_isSafer : ByteArray := prog_8_method_7_code
def yX6_isSafer : MethodName := ⟨RX6, "isSafer", "(LDrawerGloves$Drawer;II)Z"⟩
abbrev cX6_afterWorstLoss : ByteArray := prog_8_method_8_code
def yX6_afterWorstLoss : MethodName := ⟨RX6, "afterWorstLoss", "(LDrawerGloves$Drawer;I)I"⟩
abbrev cX6_markSetsOf : ByteArray := prog_8_method_9_code
def yX6_markSetsOf : MethodName := ⟨RX6, "markSetsOf", "(I)V"⟩
def RX7 : String := "DrawerGloves$Reading"
def TX7 : u_T := fun k => match k with
  | 0 => ("DrawerGloves$Reading", "kind", "[I", true)
  | 1 => ("DrawerGloves$Reading", "sort", "[I", true)
  | 2 => ("DrawerGloves$Reading", "hand", "[I", true)
  | 3 => ("DrawerGloves$Reading", "warm", "[I", true)
  | 4 => ("DrawerGloves$Reading", "size", "I", false)
  | _ => ("DrawerGloves$Reading", "room", "I", false)
def tyX7 : Nat → FieldType := fun k => match k with
  | 0 => .array .int
  | 1 => .array .int
  | 2 => .array .int
  | 3 => .array .int
  | 4 => .int
  | _ => .int
theorem nmX7 : ∀ a, a < 6 → ∀ b, b < 6 → a ≠ b → (TX7 a).2.1 ≠ (TX7 b).2.1 := by decide +kernel
theorem tyX7_ok : ∀ k, k < 6 → parseFieldDescriptor (TX7 k).2.2.1 = some (tyX7 k) := by decide +kernel
abbrev cX7_init : ByteArray := prog_9_method_1_code
def yX7_init : MethodName := ⟨RX7, "<init>", "()V"⟩
abbrev cX7_faultOf : ByteArray := prog_9_method_2_code
def yX7_faultOf : MethodName := ⟨RX7, "faultOf", "(LDrawerGloves$Rows;I)I"⟩
abbrev cX7_faultOfGlove : ByteArray := prog_9_method_3_code
def yX7_faultOfGlove : MethodName := ⟨RX7, "faultOfGlove", "(LDrawerGloves$Rows;II)I"⟩
abbrev cX7_pastBlanks : ByteArray := prog_9_method_4_code
def yX7_pastBlanks : MethodName := ⟨RX7, "pastBlanks", "(LDrawerGloves$Rows;II)I"⟩
abbrev cX7_figure : ByteArray := prog_9_method_5_code
def yX7_figure : MethodName := ⟨RX7, "figure", "(LDrawerGloves$Rows;IIII)I"⟩
abbrev cX7_kindOf : ByteArray := prog_9_method_6_code
def yX7_kindOf : MethodName := ⟨RX7, "kindOf", "(I)I"⟩
def RX8 : String := "DrawerGloves$Rivals"
def TX8 : u_T := fun k => match k with
  | 0 => ("DrawerGloves$Rivals", "known", "[I", true)
  | _ => ("DrawerGloves$Rivals", "inThrees", "[I", true)
def tyX8 : Nat → FieldType := fun k => match k with
  | 0 => .array .int
  | _ => .array .int
theorem nmX8 : ∀ a, a < 2 → ∀ b, b < 2 → a ≠ b → (TX8 a).2.1 ≠ (TX8 b).2.1 := by decide +kernel
theorem tyX8_ok : ∀ k, k < 2 → parseFieldDescriptor (TX8 k).2.2.1 = some (tyX8 k) := by decide +kernel
abbrev cX8_init : ByteArray := prog_10_method_1_code
def yX8_init : MethodName := ⟨RX8, "<init>", "()V"⟩
abbrev cX8_leadAfter : ByteArray := prog_10_method_2_code
def yX8_leadAfter : MethodName := ⟨RX8, "leadAfter", "(LDrawerGloves$Makings;II)I"⟩
abbrev cX8_lead : ByteArray := prog_10_method_3_code
def yX8_lead : MethodName := ⟨RX8, "lead", "(LDrawerGloves$Rivals;LDrawerGloves$Makings;IIII)I"⟩
def RX9 : String := "DrawerGloves$Rows"
def TX9 : u_T := fun k => match k with
  | 0 => ("DrawerGloves$Rows", "places", "[[I", true)
  | 1 => ("DrawerGloves$Rows", "sizes", "[I", true)
  | 2 => ("DrawerGloves$Rows", "mostPlaces", "I", true)
  | _ => ("DrawerGloves$Rows", "filler", "I", true)
def tyX9 : Nat → FieldType := fun k => match k with
  | 0 => .array (.array .int)
  | 1 => .array .int
  | 2 => .int
  | _ => .int
theorem nmX9 : ∀ a, a < 4 → ∀ b, b < 4 → a ≠ b → (TX9 a).2.1 ≠ (TX9 b).2.1 := by decide +kernel
theorem tyX9_ok : ∀ k, k < 4 → parseFieldDescriptor (TX9 k).2.2.1 = some (tyX9 k) := by decide +kernel
abbrev cX9_init : ByteArray := prog_11_method_1_code
def yX9_init : MethodName := ⟨RX9, "<init>", "(III)V"⟩
abbrev cX9_isNumber : ByteArray := prog_11_method_2_code
def yX9_isNumber : MethodName := ⟨RX9, "isNumber", "(I)Z"⟩
abbrev cX9_sizeOf : ByteArray := prog_11_method_3_code
def yX9_sizeOf : MethodName := ⟨RX9, "sizeOf", "(I)I"⟩
abbrev cX9_isThere : ByteArray := prog_11_method_4_code
def yX9_isThere : MethodName := ⟨RX9, "isThere", "(I)Z"⟩
abbrev cX9_holds : ByteArray := prog_11_method_5_code
def yX9_holds : MethodName := ⟨RX9, "holds", "(II)Z"⟩
abbrev cX9_reaches : ByteArray := prog_11_method_6_code
def yX9_reaches : MethodName := ⟨RX9, "reaches", "(III)Z"⟩
abbrev cX9_begin : ByteArray := prog_11_method_7_code
def yX9_begin : MethodName := ⟨RX9, "begin", "(II)V"⟩
abbrev cX9_drop : ByteArray := prog_11_method_8_code
def yX9_drop : MethodName := ⟨RX9, "drop", "(I)V"⟩
abbrev cX9_read : ByteArray := prog_11_method_9_code
def yX9_read : MethodName := ⟨RX9, "read", "(II)I"⟩
abbrev cX9_write : ByteArray := prog_11_method_10_code
def yX9_write : MethodName := ⟨RX9, "write", "(III)V"⟩
abbrev cX9_move : ByteArray := prog_11_method_11_code
def yX9_move : MethodName := ⟨RX9, "move", "(IIIII)V"⟩
abbrev cX9_total : ByteArray := prog_11_method_12_code
def yX9_total : MethodName := ⟨RX9, "total", "(I)J"⟩
abbrev cX9_howManyThere : ByteArray := prog_11_method_13_code
def yX9_howManyThere : MethodName := ⟨RX9, "howManyThere", "()I"⟩
abbrev cX9_digestOn : ByteArray := prog_11_method_14_code
def yX9_digestOn : MethodName := ⟨RX9, "digestOn", "(J)J"⟩
def RX10 : String := "DrawerGloves"
def TX10 : u_T := fun k => match k with
  | 0 => ("DrawerGloves", "rows", "LDrawerGloves$Rows;", true)
  | 1 => ("DrawerGloves", "texts", "LDrawerGloves$Rows;", true)
  | 2 => ("DrawerGloves", "reading", "LDrawerGloves$Reading;", true)
  | 3 => ("DrawerGloves", "chest", "LDrawerGloves$Drawer;", true)
  | 4 => ("DrawerGloves", "kept", "[LDrawerGloves$Deeds;", true)
  | 5 => ("DrawerGloves", "makings", "LDrawerGloves$Makings;", true)
  | 6 => ("DrawerGloves", "calendar", "LDrawerGloves$Calendar;", true)
  | 7 => ("DrawerGloves", "guess", "LDrawerGloves$Guess;", true)
  | 8 => ("DrawerGloves", "rivals", "LDrawerGloves$Rivals;", true)
  | 9 => ("DrawerGloves", "chances", "LDrawerGloves$Chances;", true)
  | 10 => ("DrawerGloves", "found", "[I", true)
  | 11 => ("DrawerGloves", "lastFound", "I", false)
  | _ => ("DrawerGloves", "lastAsked", "I", false)
def tyX10 : Nat → FieldType := fun k => match k with
  | 0 => .object "DrawerGloves$Rows"
  | 1 => .object "DrawerGloves$Rows"
  | 2 => .object "DrawerGloves$Reading"
  | 3 => .object "DrawerGloves$Drawer"
  | 4 => .array (.object "DrawerGloves$Deeds")
  | 5 => .object "DrawerGloves$Makings"
  | 6 => .object "DrawerGloves$Calendar"
  | 7 => .object "DrawerGloves$Guess"
  | 8 => .object "DrawerGloves$Rivals"
  | 9 => .object "DrawerGloves$Chances"
  | 10 => .array .int
  | 11 => .int
  | _ => .int
theorem nmX10 : ∀ a, a < 13 → ∀ b, b < 13 → a ≠ b → (TX10 a).2.1 ≠ (TX10 b).2.1 := by decide +kernel
theorem tyX10_ok : ∀ k, k < 13 → parseFieldDescriptor (TX10 k).2.2.1 = some (tyX10 k) := by decide +kernel
abbrev cX10_init : ByteArray := prog_1_method_1_code
def yX10_init : MethodName := ⟨RX10, "<init>", "()V"⟩
abbrev cX10_row : ByteArray := prog_1_method_2_code
def yX10_row : MethodName := ⟨RX10, "row", "(II)I"⟩
abbrev cX10_lay : ByteArray := prog_1_method_3_code
def yX10_lay : MethodName := ⟨RX10, "lay", "(III)I"⟩
abbrev cX10_at : ByteArray := prog_1_method_4_code
def yX10_at : MethodName := ⟨RX10, "at", "(II)I"⟩
abbrev cX10_tear : ByteArray := prog_1_method_5_code
def yX10_tear : MethodName := ⟨RX10, "tear", "(I)I"⟩
abbrev cX10_copy : ByteArray := prog_1_method_6_code
def yX10_copy : MethodName := ⟨RX10, "copy", "(IIIII)I"⟩
abbrev cX10_mean : ByteArray := prog_1_method_7_code
def yX10_mean : MethodName := ⟨RX10, "mean", "(I)I"⟩
abbrev cX10_text : ByteArray := prog_1_method_8_code
def yX10_text : MethodName := ⟨RX10, "text", "(II)I"⟩
abbrev cX10_put : ByteArray := prog_1_method_9_code
def yX10_put : MethodName := ⟨RX10, "put", "(III)I"⟩
abbrev cX10_fault : ByteArray := prog_1_method_10_code
def yX10_fault : MethodName := ⟨RX10, "fault", "(I)I"⟩
abbrev cX10_drawer : ByteArray := prog_1_method_11_code
def yX10_drawer : MethodName := ⟨RX10, "drawer", "(I)I"⟩
abbrev cX10_glove : ByteArray := prog_1_method_12_code
def yX10_glove : MethodName := ⟨RX10, "glove", "(II)I"⟩
abbrev cX10_mark : ByteArray := prog_1_method_13_code
def yX10_mark : MethodName := ⟨RX10, "mark", "(II)I"⟩
abbrev cX10_pair : ByteArray := prog_1_method_14_code
def yX10_pair : MethodName := ⟨RX10, "pair", "(II)I"⟩
abbrev cX10_wear : ByteArray := prog_1_method_15_code
def yX10_wear : MethodName := ⟨RX10, "wear", "(II)I"⟩
abbrev cX10_lose : ByteArray := prog_1_method_16_code
def yX10_lose : MethodName := ⟨RX10, "lose", "(I)I"⟩
abbrev cX10_back : ByteArray := prog_1_method_17_code
def yX10_back : MethodName := ⟨RX10, "back", "(I)I"⟩
abbrev cX10_out : ByteArray := prog_1_method_18_code
def yX10_out : MethodName := ⟨RX10, "out", "(I)I"⟩
abbrev cX10_undo : ByteArray := prog_1_method_19_code
def yX10_undo : MethodName := ⟨RX10, "undo", "(I)I"⟩
abbrev cX10_keep : ByteArray := prog_1_method_20_code
def yX10_keep : MethodName := ⟨RX10, "keep", "(I)I"⟩
abbrev cX10_on : ByteArray := prog_1_method_21_code
def yX10_on : MethodName := ⟨RX10, "on", "(I)I"⟩
abbrev cX10_good : ByteArray := prog_1_method_22_code
def yX10_good : MethodName := ⟨RX10, "good", "(I)I"⟩
abbrev cX10_pairs : ByteArray := prog_1_method_23_code
def yX10_pairs : MethodName := ⟨RX10, "pairs", "(I)I"⟩
abbrev cX10_missed : ByteArray := prog_1_method_24_code
def yX10_missed : MethodName := ⟨RX10, "missed", "()I"⟩
abbrev cX10_wished : ByteArray := prog_1_method_25_code
def yX10_wished : MethodName := ⟨RX10, "wished", "()I"⟩
abbrev cX10_days : ByteArray := prog_1_method_26_code
def yX10_days : MethodName := ⟨RX10, "days", "(II)I"⟩
abbrev cX10_room : ByteArray := prog_1_method_27_code
def yX10_room : MethodName := ⟨RX10, "room", "()I"⟩
abbrev cX10_join : ByteArray := prog_1_method_28_code
def yX10_join : MethodName := ⟨RX10, "join", "(II)I"⟩
abbrev cX10_sorts : ByteArray := prog_1_method_29_code
def yX10_sorts : MethodName := ⟨RX10, "sorts", "(II)I"⟩
abbrev cX10_hands : ByteArray := prog_1_method_30_code
def yX10_hands : MethodName := ⟨RX10, "hands", "(II)I"⟩
abbrev cX10_kinds : ByteArray := prog_1_method_31_code
def yX10_kinds : MethodName := ⟨RX10, "kinds", "(II)I"⟩
abbrev cX10_test : ByteArray := prog_1_method_32_code
def yX10_test : MethodName := ⟨RX10, "test", "(II)I"⟩
abbrev cX10_duel : ByteArray := prog_1_method_33_code
def yX10_duel : MethodName := ⟨RX10, "duel", "(I)I"⟩
abbrev cX10_odds : ByteArray := prog_1_method_34_code
def yX10_odds : MethodName := ⟨RX10, "odds", "(III)I"⟩
abbrev cX10_mid : ByteArray := prog_1_method_35_code
def yX10_mid : MethodName := ⟨RX10, "mid", "(II)I"⟩
abbrev cX10_lots : ByteArray := prog_1_method_36_code
def yX10_lots : MethodName := ⟨RX10, "lots", "(II)I"⟩
abbrev cX10_asked : ByteArray := prog_1_method_37_code
def yX10_asked : MethodName := ⟨RX10, "asked", "()I"⟩
abbrev cX10_upper : ByteArray := prog_1_method_38_code
def yX10_upper : MethodName := ⟨RX10, "upper", "()J"⟩
abbrev cX10_lower : ByteArray := prog_1_method_39_code
def yX10_lower : MethodName := ⟨RX10, "lower", "()J"⟩
abbrev cX10_count : ByteArray := prog_1_method_40_code
def yX10_count : MethodName := ⟨RX10, "count", "(I)I"⟩
abbrev cX10_finding : ByteArray := prog_1_method_41_code
def yX10_finding : MethodName := ⟨RX10, "finding", "()I"⟩
abbrev cX10_findings : ByteArray := prog_1_method_42_code
def yX10_findings : MethodName := ⟨RX10, "findings", "(I)I"⟩
abbrev cX10_digest : ByteArray := prog_1_method_43_code
def yX10_digest : MethodName := ⟨RX10, "digest", "()J"⟩
abbrev cX10_finds : ByteArray := prog_1_method_44_code
def yX10_finds : MethodName := ⟨RX10, "finds", "(I)I"⟩
abbrev cX10_tells : ByteArray := prog_1_method_45_code
def yX10_tells : MethodName := ⟨RX10, "tells", "(I)I"⟩
abbrev cX10_refusedRow : ByteArray := prog_1_method_46_code
def yX10_refusedRow : MethodName := ⟨RX10, "refusedRow", "(I)I"⟩
abbrev cX10_refusedPlace : ByteArray := prog_1_method_47_code
def yX10_refusedPlace : MethodName := ⟨RX10, "refusedPlace", "(II)I"⟩
abbrev cX10_refusedText : ByteArray := prog_1_method_48_code
def yX10_refusedText : MethodName := ⟨RX10, "refusedText", "(I)I"⟩
abbrev cX10_refusedGuess : ByteArray := prog_1_method_49_code
def yX10_refusedGuess : MethodName := ⟨RX10, "refusedGuess", "(II)I"⟩
abbrev cX10_greatestChange : ByteArray := prog_1_method_50_code
def yX10_greatestChange : MethodName := ⟨RX10, "greatestChange", "(I)I"⟩
abbrev cX10_howManyKept : ByteArray := prog_1_method_51_code
def yX10_howManyKept : MethodName := ⟨RX10, "howManyKept", "()I"⟩
abbrev cX10_isChance : ByteArray := prog_1_method_52_code
def yX10_isChance : MethodName := ⟨RX10, "isChance", "(I)Z"⟩
def RX11 : String := "DrawerGlovesModel"
def TX11 : u_T := fun k => match k with
  | 0 => ("DrawerGlovesModel", "asked", "I", false)
  | 1 => ("DrawerGlovesModel", "up", "J", false)
  | 2 => ("DrawerGlovesModel", "down", "J", false)
  | 3 => ("DrawerGlovesModel", "latest", "I", false)
  | 4 => ("DrawerGlovesModel", "found", "[I", true)
  | 5 => ("DrawerGlovesModel", "cells", "[I", true)
  | 6 => ("DrawerGlovesModel", "rowSize", "[I", true)
  | 7 => ("DrawerGlovesModel", "bytes", "[B", true)
  | 8 => ("DrawerGlovesModel", "textSize", "[I", true)
  | 9 => ("DrawerGlovesModel", "taken", "[I", true)
  | 10 => ("DrawerGlovesModel", "draftRoom", "I", false)
  | 11 => ("DrawerGlovesModel", "draftGloves", "I", false)
  | 12 => ("DrawerGlovesModel", "draftKind", "[I", true)
  | 13 => ("DrawerGlovesModel", "draftSort", "[I", true)
  | 14 => ("DrawerGlovesModel", "draftHand", "[I", true)
  | 15 => ("DrawerGlovesModel", "draftWarm", "[I", true)
  | 16 => ("DrawerGlovesModel", "reading", "I", false)
  | 17 => ("DrawerGlovesModel", "place", "I", false)
  | 18 => ("DrawerGlovesModel", "fault", "I", false)
  | 19 => ("DrawerGlovesModel", "room", "I", false)
  | 20 => ("DrawerGlovesModel", "gloves", "I", false)
  | 21 => ("DrawerGlovesModel", "kind", "[I", true)
  | 22 => ("DrawerGlovesModel", "sort", "[I", true)
  | 23 => ("DrawerGlovesModel", "hand", "[I", true)
  | 24 => ("DrawerGlovesModel", "warm", "[I", true)
  | 25 => ("DrawerGlovesModel", "where", "[I", true)
  | 26 => ("DrawerGlovesModel", "worn", "[I", true)
  | 27 => ("DrawerGlovesModel", "deeds", "I", false)
  | 28 => ("DrawerGlovesModel", "deed", "[I", true)
  | 29 => ("DrawerGlovesModel", "keptDeeds", "[I", true)
  | 30 => ("DrawerGlovesModel", "keptDeed", "[I", true)
  | 31 => ("DrawerGlovesModel", "best", "[I", true)
  | 32 => ("DrawerGlovesModel", "most", "[I", true)
  | 33 => ("DrawerGlovesModel", "twos", "[I", true)
  | 34 => ("DrawerGlovesModel", "many", "I", false)
  | _ => ("DrawerGlovesModel", "worth", "[I", true)
def tyX11 : Nat → FieldType := fun k => match k with
  | 0 => .int
  | 1 => .long
  | 2 => .long
  | 3 => .int
  | 4 => .array .int
  | 5 => .array .int
  | 6 => .array .int
  | 7 => .array .byte
  | 8 => .array .int
  | 9 => .array .int
  | 10 => .int
  | 11 => .int
  | 12 => .array .int
  | 13 => .array .int
  | 14 => .array .int
  | 15 => .array .int
  | 16 => .int
  | 17 => .int
  | 18 => .int
  | 19 => .int
  | 20 => .int
  | 21 => .array .int
  | 22 => .array .int
  | 23 => .array .int
  | 24 => .array .int
  | 25 => .array .int
  | 26 => .array .int
  | 27 => .int
  | 28 => .array .int
  | 29 => .array .int
  | 30 => .array .int
  | 31 => .array .int
  | 32 => .array .int
  | 33 => .array .int
  | 34 => .int
  | _ => .array .int
theorem nmX11 : ∀ a, a < 36 → ∀ b, b < 36 → a ≠ b → (TX11 a).2.1 ≠ (TX11 b).2.1 := by decide +kernel
theorem tyX11_ok : ∀ k, k < 36 → parseFieldDescriptor (TX11 k).2.2.1 = some (tyX11 k) := by decide +kernel
abbrev cX11_init : ByteArray := prog_13_method_1_code
def yX11_init : MethodName := ⟨RX11, "<init>", "()V"⟩
abbrev cX11_in : ByteArray := prog_13_method_3_code
def yX11_in : MethodName := ⟨RX11, "in", "(III)Z"⟩
abbrev cX11_refuse : ByteArray := prog_13_method_4_code
def yX11_refuse : MethodName := ⟨RX11, "refuse", "(I)I"⟩
abbrev cX11_tellsAsked : ByteArray := prog_13_method_5_code
def yX11_tellsAsked : MethodName := ⟨RX11, "tellsAsked", "(I)I"⟩
abbrev cX11_tellPart : ByteArray := prog_13_method_6_code
def yX11_tellPart : MethodName := ⟨RX11, "tellPart", "(JJ)V"⟩
abbrev cX11_isRow : ByteArray := prog_13_method_7_code
def yX11_isRow : MethodName := ⟨RX11, "isRow", "(I)Z"⟩
abbrev cX11_clearRow : ByteArray := prog_13_method_8_code
def yX11_clearRow : MethodName := ⟨RX11, "clearRow", "(II)V"⟩
abbrev cX11_row : ByteArray := prog_13_method_9_code
def yX11_row : MethodName := ⟨RX11, "row", "(II)I"⟩
abbrev cX11_lay : ByteArray := prog_13_method_10_code
def yX11_lay : MethodName := ⟨RX11, "lay", "(III)I"⟩
abbrev cX11_at : ByteArray := prog_13_method_11_code
def yX11_at : MethodName := ⟨RX11, "at", "(II)I"⟩
abbrev cX11_tear : ByteArray := prog_13_method_12_code
def yX11_tear : MethodName := ⟨RX11, "tear", "(I)I"⟩
abbrev cX11_copy : ByteArray := prog_13_method_13_code
def yX11_copy : MethodName := ⟨RX11, "copy", "(IIIII)I"⟩
abbrev cX11_mean : ByteArray := prog_13_method_14_code
def yX11_mean : MethodName := ⟨RX11, "mean", "(I)I"⟩
abbrev cX11_isText : ByteArray := prog_13_method_15_code
def yX11_isText : MethodName := ⟨RX11, "isText", "(I)Z"⟩
abbrev cX11_text : ByteArray := prog_13_method_16_code
def yX11_text : MethodName := ⟨RX11, "text", "(II)I"⟩
abbrev cX11_put : ByteArray := prog_13_method_17_code
def yX11_put : MethodName := ⟨RX11, "put", "(III)I"⟩
abbrev cX11_here : ByteArray := prog_13_method_18_code
def yX11_here : MethodName := ⟨RX11, "here", "()I"⟩
abbrev cX11_skip : ByteArray := prog_13_method_19_code
def yX11_skip : MethodName := ⟨RX11, "skip", "()V"⟩
abbrev cX11_figure : ByteArray := prog_13_method_20_code
def yX11_figure : MethodName := ⟨RX11, "figure", "(II)I"⟩
abbrev cX11_kindBy : ByteArray := prog_13_method_21_code
def yX11_kindBy : MethodName := ⟨RX11, "kindBy", "(I)I"⟩
abbrev cX11_readGlove : ByteArray := prog_13_method_22_code
def yX11_readGlove : MethodName := ⟨RX11, "readGlove", "()V"⟩
abbrev cX11_read : ByteArray := prog_13_method_23_code
def yX11_read : MethodName := ⟨RX11, "read", "(I)V"⟩
abbrev cX11_fault : ByteArray := prog_13_method_24_code
def yX11_fault : MethodName := ⟨RX11, "fault", "(I)I"⟩
abbrev cX11_drawer : ByteArray := prog_13_method_25_code
def yX11_drawer : MethodName := ⟨RX11, "drawer", "(I)I"⟩
abbrev cX11_isGlove : ByteArray := prog_13_method_26_code
def yX11_isGlove : MethodName := ⟨RX11, "isGlove", "(I)Z"⟩
abbrev cX11_all : ByteArray := prog_13_method_27_code
def yX11_all : MethodName := ⟨RX11, "all", "()I"⟩
abbrev cX11_isOf : ByteArray := prog_13_method_28_code
def yX11_isOf : MethodName := ⟨RX11, "isOf", "(II)Z"⟩
abbrev cX11_warmthAs : ByteArray := prog_13_method_29_code
def yX11_warmthAs : MethodName := ⟨RX11, "warmthAs", "(II)I"⟩
abbrev cX11_goesOn : ByteArray := prog_13_method_30_code
def yX11_goesOn : MethodName := ⟨RX11, "goesOn", "(II)I"⟩
abbrev cX11_pairAs : ByteArray := prog_13_method_31_code
def yX11_pairAs : MethodName := ⟨RX11, "pairAs", "(IIIII)I"⟩
abbrev cX11_pairOf : ByteArray := prog_13_method_32_code
def yX11_pairOf : MethodName := ⟨RX11, "pairOf", "(II)I"⟩
abbrev cX11_setIn : ByteArray := prog_13_method_33_code
def yX11_setIn : MethodName := ⟨RX11, "setIn", "(I)I"⟩
abbrev cX11_manyOf : ByteArray := prog_13_method_34_code
def yX11_manyOf : MethodName := ⟨RX11, "manyOf", "(I)I"⟩
abbrev cX11_inDrawer : ByteArray := prog_13_method_35_code
def yX11_inDrawer : MethodName := ⟨RX11, "inDrawer", "()I"⟩
abbrev cX11_happen : ByteArray := prog_13_method_36_code
def yX11_happen : MethodName := ⟨RX11, "happen", "(III)V"⟩
abbrev cX11_goThrough : ByteArray := prog_13_method_37_code
def yX11_goThrough : MethodName := ⟨RX11, "goThrough", "()V"⟩
abbrev cX11_does : ByteArray := prog_13_method_38_code
def yX11_does : MethodName := ⟨RX11, "does", "(III)V"⟩
abbrev cX11_ofGlove : ByteArray := prog_13_method_39_code
def yX11_ofGlove : MethodName := ⟨RX11, "ofGlove", "(II)I"⟩
abbrev cX11_glove : ByteArray := prog_13_method_40_code
def yX11_glove : MethodName := ⟨RX11, "glove", "(II)I"⟩
abbrev cX11_mark : ByteArray := prog_13_method_41_code
def yX11_mark : MethodName := ⟨RX11, "mark", "(II)I"⟩
abbrev cX11_areTwo : ByteArray := prog_13_method_42_code
def yX11_areTwo : MethodName := ⟨RX11, "areTwo", "(II)Z"⟩
abbrev cX11_pair : ByteArray := prog_13_method_43_code
def yX11_pair : MethodName := ⟨RX11, "pair", "(II)I"⟩
abbrev cX11_wear : ByteArray := prog_13_method_44_code
def yX11_wear : MethodName := ⟨RX11, "wear", "(II)I"⟩
abbrev cX11_lose : ByteArray := prog_13_method_45_code
def yX11_lose : MethodName := ⟨RX11, "lose", "(I)I"⟩
abbrev cX11_back : ByteArray := prog_13_method_46_code
def yX11_back : MethodName := ⟨RX11, "back", "(I)I"⟩
abbrev cX11_out : ByteArray := prog_13_method_47_code
def yX11_out : MethodName := ⟨RX11, "out", "(I)I"⟩
abbrev cX11_undo : ByteArray := prog_13_method_48_code
def yX11_undo : MethodName := ⟨RX11, "undo", "(I)I"⟩
abbrev cX11_keep : ByteArray := prog_13_method_49_code
def yX11_keep : MethodName := ⟨RX11, "keep", "(I)I"⟩
abbrev cX11_on : ByteArray := prog_13_method_50_code
def yX11_on : MethodName := ⟨RX11, "on", "(I)I"⟩
abbrev cX11_lowestOf : ByteArray := prog_13_method_51_code
def yX11_lowestOf : MethodName := ⟨RX11, "lowestOf", "(I)I"⟩
abbrev cX11_measure : ByteArray := prog_13_method_52_code
def yX11_measure : MethodName := ⟨RX11, "measure", "()V"⟩
abbrev cX11_good : ByteArray := prog_13_method_53_code
def yX11_good : MethodName := ⟨RX11, "good", "(I)I"⟩
abbrev cX11_pairs : ByteArray := prog_13_method_54_code
def yX11_pairs : MethodName := ⟨RX11, "pairs", "(I)I"⟩
abbrev cX11_missed : ByteArray := prog_13_method_55_code
def yX11_missed : MethodName := ⟨RX11, "missed", "()I"⟩
abbrev cX11_wished : ByteArray := prog_13_method_56_code
def yX11_wished : MethodName := ⟨RX11, "wished", "()I"⟩
abbrev cX11_listTwos : ByteArray := prog_13_method_57_code
def yX11_listTwos : MethodName := ⟨RX11, "listTwos", "()V"⟩
abbrev cX11_useOf : ByteArray := prog_13_method_58_code
def yX11_useOf : MethodName := ⟨RX11, "useOf", "(I)I"⟩
abbrev cX11_takeOff : ByteArray := prog_13_method_59_code
def yX11_takeOff : MethodName := ⟨RX11, "takeOff", "(I)V"⟩
abbrev cX11_days : ByteArray := prog_13_method_60_code
def yX11_days : MethodName := ⟨RX11, "days", "(II)I"⟩
abbrev cX11_worstOf : ByteArray := prog_13_method_61_code
def yX11_worstOf : MethodName := ⟨RX11, "worstOf", "(I)I"⟩
abbrev cX11_room : ByteArray := prog_13_method_62_code
def yX11_room : MethodName := ⟨RX11, "room", "()I"⟩
abbrev cX11_join : ByteArray := prog_13_method_63_code
def yX11_join : MethodName := ⟨RX11, "join", "(II)I"⟩
abbrev cX11_judge : ByteArray := prog_13_method_64_code
def yX11_judge : MethodName := ⟨RX11, "judge", "(II)I"⟩
abbrev cX11_isSo : ByteArray := prog_13_method_65_code
def yX11_isSo : MethodName := ⟨RX11, "isSo", "(IIIII)Z"⟩
abbrev cX11_sorts : ByteArray := prog_13_method_66_code
def yX11_sorts : MethodName := ⟨RX11, "sorts", "(II)I"⟩
abbrev cX11_hands : ByteArray := prog_13_method_67_code
def yX11_hands : MethodName := ⟨RX11, "hands", "(II)I"⟩
abbrev cX11_kindsBy : ByteArray := prog_13_method_68_code
def yX11_kindsBy : MethodName := ⟨RX11, "kindsBy", "(II)I"⟩
abbrev cX11_kinds : ByteArray := prog_13_method_69_code
def yX11_kinds : MethodName := ⟨RX11, "kinds", "(II)I"⟩
abbrev cX11_partBy : ByteArray := prog_13_method_70_code
def yX11_partBy : MethodName := ⟨RX11, "partBy", "(III)I"⟩
abbrev cX11_test : ByteArray := prog_13_method_71_code
def yX11_test : MethodName := ⟨RX11, "test", "(II)I"⟩
abbrev cX11_unitOf : ByteArray := prog_13_method_72_code
def yX11_unitOf : MethodName := ⟨RX11, "unitOf", "(I)I"⟩
abbrev cX11_hasOf : ByteArray := prog_13_method_73_code
def yX11_hasOf : MethodName := ⟨RX11, "hasOf", "(II)I"⟩
abbrev cX11_duel : ByteArray := prog_13_method_74_code
def yX11_duel : MethodName := ⟨RX11, "duel", "(I)I"⟩
abbrev cX11_bestTurn : ByteArray := prog_13_method_75_code
def yX11_bestTurn : MethodName := ⟨RX11, "bestTurn", "(III)I"⟩
abbrev cX11_areOf : ByteArray := prog_13_method_76_code
def yX11_areOf : MethodName := ⟨RX11, "areOf", "(II)Z"⟩
abbrev cX11_lossOf : ByteArray := prog_13_method_77_code
def yX11_lossOf : MethodName := ⟨RX11, "lossOf", "(III)I"⟩
abbrev cX11_waysOf : ByteArray := prog_13_method_78_code
def yX11_waysOf : MethodName := ⟨RX11, "waysOf", "(IIII)J"⟩
abbrev cX11_allWays : ByteArray := prog_13_method_79_code
def yX11_allWays : MethodName := ⟨RX11, "allWays", "(I)J"⟩
abbrev cX11_odds : ByteArray := prog_13_method_80_code
def yX11_odds : MethodName := ⟨RX11, "odds", "(III)I"⟩
abbrev cX11_mid : ByteArray := prog_13_method_81_code
def yX11_mid : MethodName := ⟨RX11, "mid", "(II)I"⟩
abbrev cX11_lots : ByteArray := prog_13_method_82_code
def yX11_lots : MethodName := ⟨RX11, "lots", "(II)I"⟩
abbrev cX11_asked : ByteArray := prog_13_method_83_code
def yX11_asked : MethodName := ⟨RX11, "asked", "()I"⟩
abbrev cX11_upper : ByteArray := prog_13_method_84_code
def yX11_upper : MethodName := ⟨RX11, "upper", "()J"⟩
abbrev cX11_lower : ByteArray := prog_13_method_85_code
def yX11_lower : MethodName := ⟨RX11, "lower", "()J"⟩
abbrev cX11_count : ByteArray := prog_13_method_86_code
def yX11_count : MethodName := ⟨RX11, "count", "(I)I"⟩
abbrev cX11_finding : ByteArray := prog_13_method_87_code
def yX11_finding : MethodName := ⟨RX11, "finding", "()I"⟩
abbrev cX11_findings : ByteArray := prog_13_method_88_code
def yX11_findings : MethodName := ⟨RX11, "findings", "(I)I"⟩
abbrev cX11_digest : ByteArray := prog_13_method_89_code
def yX11_digest : MethodName := ⟨RX11, "digest", "()J"⟩
def RJ6 : String := "java/lang/Integer"
def TJ6 : u_T := fun k => match k with
  | _ => ("", "", "", false)
def tyJ6 : Nat → FieldType := fun k => match k with
  | _ => .int
abbrev cJ6_bitCount_0f7a4 : ByteArray := prog_14_method_49_code
def yJ6_bitCount_0f7a4 : MethodName := ⟨RJ6, "bitCount", "(I)I"⟩
def RJ9 : String := "java/lang/Math"
def TJ9 : u_T := fun k => match k with
  | _ => ("", "", "", false)
def tyJ9 : Nat → FieldType := fun k => match k with
  | _ => .int
def RJ10 : String := "java/lang/System"
def TJ10 : u_T := fun k => match k with
  | _ => ("", "", "", false)
def tyJ10 : Nat → FieldType := fun k => match k with
  | _ => .int
def RL : String := "DrawerGlovesLaw"
abbrev cL_law : ByteArray := code
def yL_law : MethodName := ⟨RL, "law", "([I)Z"⟩
abbrev vwCl : List vw_C := [(RX0, TX0, 7), (RX1, TX1, 3), (RX2, TX2, 2), (RX3, TX3, 4), (RX4, TX4, 6), (RX5, TX5, 2), (RX6, TX6, 4), (RX7, TX7, 6), (RX8, TX8, 2), (RX9, TX9, 4), (RX10, TX10, 13), (RX11, TX11, 36)]
theorem mm_s (w : Cond) (h : w ∈ k2_sels lw_privs) : w ∈ lw_tbl := List.mem_append_left _ h
theorem mm_t (w : Cond) (h : w ∈ tables_1) : w ∈ lw_tbl := List.mem_append_right _ h
theorem mm_1 {w : Cond} (h : w ∈ tables_1_1) : w ∈ lw_tbl := mm_t _ (List.mem_append_left _ h)
theorem mm_2 {w : Cond} (h : w ∈ tables_1_2) : w ∈ lw_tbl := mm_t _ (List.mem_append_right _ (List.mem_append_left _ h))
theorem mm_3 {w : Cond} (h : w ∈ tables_1_3) : w ∈ lw_tbl := mm_t _ (List.mem_append_right _ (List.mem_append_right _ (List.mem_append_left _ h)))
theorem mm_4 {w : Cond} (h : w ∈ tables_1_4) : w ∈ lw_tbl := mm_t _ (List.mem_append_right _ (List.mem_append_right _ (List.mem_append_right _ (List.mem_append_left _ h))))
theorem mm_5 {w : Cond} (h : w ∈ tables_1_5) : w ∈ lw_tbl := mm_t _ (List.mem_append_right _ (List.mem_append_right _ (List.mem_append_right _ (List.mem_append_right _ (List.mem_append_left _ h)))))
theorem mm_6 {w : Cond} (h : w ∈ tables_1_6) : w ∈ lw_tbl := mm_t _ (List.mem_append_right _ (List.mem_append_right _ (List.mem_append_right _ (List.mem_append_right _ (List.mem_append_right _ (h))))))
theorem mp_1 {q : MethodName × Nat} (h : q ∈ lw_privs_1) : Cond.selects q.1.cls q.1 q.1 ∈ lw_tbl := mm_s _ (List.mem_map.mpr ⟨q, List.mem_append_left _ h, rfl⟩)
theorem mp_2 {q : MethodName × Nat} (h : q ∈ lw_privs_2) : Cond.selects q.1.cls q.1 q.1 ∈ lw_tbl := mm_s _ (List.mem_map.mpr ⟨q, List.mem_append_right _ (List.mem_append_left _ h), rfl⟩)
theorem mp_3 {q : MethodName × Nat} (h : q ∈ lw_privs_3) : Cond.selects q.1.cls q.1 q.1 ∈ lw_tbl := mm_s _ (List.mem_map.mpr ⟨q, List.mem_append_right _ (List.mem_append_right _ (List.mem_append_left _ h)), rfl⟩)
theorem mp_4 {q : MethodName × Nat} (h : q ∈ lw_privs_4) : Cond.selects q.1.cls q.1 q.1 ∈ lw_tbl := mm_s _ (List.mem_map.mpr ⟨q, List.mem_append_right _ (List.mem_append_right _ (List.mem_append_right _ (h))), rfl⟩)
/-- the words that a call carries on -/
def gtbl : List Cond := lw_tbl.filter goodWord
theorem mg {w : Cond} (h : w ∈ lw_tbl) (hg : goodWord w = true) : w ∈ gtbl := List.mem_filter.mpr ⟨h, hg⟩
theorem gtbl_in {w : Cond} (h : w ∈ gtbl) : w ∈ lw_tbl := (List.mem_filter.mp h).1
theorem tblG (w : Cond) (h : w ∈ gtbl) : (w.onTables && w.keeps) = true ∨ ∃ ty, w = .arrayClass ty := good_of_word (List.mem_filter.mp h).2
set_option maxRecDepth 20000 in
theorem m_1_0 : (Jvm.Cond.initialized "DrawerGlovesLaw") ∈ gtbl := mg (mm_1 (List.mem_of_getElem? (i := 0) rfl)) rfl
set_option maxRecDepth 20000 in
theorem m_1_1 : (Jvm.Cond.initialized "DrawerGloves") ∈ gtbl := mg (mm_1 (List.mem_of_getElem? (i := 1) rfl)) rfl
set_option maxRecDepth 20000 in
theorem m_1_2 : (Jvm.Cond.initialized "DrawerGloves$Rows") ∈ gtbl := mg (mm_1 (List.mem_of_getElem? (i := 2) rfl)) rfl
set_option maxRecDepth 20000 in
theorem m_1_3 : (Jvm.Cond.initialized "java/lang/Math") ∈ gtbl := mg (mm_1 (List.mem_of_getElem? (i := 3) rfl)) rfl
set_option maxRecDepth 20000 in
theorem m_1_4 : (Jvm.Cond.initialized "DrawerGloves$Reading") ∈ gtbl := mg (mm_1 (List.mem_of_getElem? (i := 4) rfl)) rfl
set_option maxRecDepth 20000 in
theorem m_1_5 : (Jvm.Cond.initialized "DrawerGloves$Drawer") ∈ gtbl := mg (mm_1 (List.mem_of_getElem? (i := 5) rfl)) rfl
set_option maxRecDepth 20000 in
theorem m_1_6 : (Jvm.Cond.initialized "DrawerGloves$Deeds") ∈ gtbl := mg (mm_1 (List.mem_of_getElem? (i := 6) rfl)) rfl
set_option maxRecDepth 20000 in
theorem m_1_7 : (Jvm.Cond.initialized "DrawerGloves$Glove") ∈ gtbl := mg (mm_1 (List.mem_of_getElem? (i := 7) rfl)) rfl
set_option maxRecDepth 20000 in
theorem m_1_8 : (Jvm.Cond.initialized "DrawerGloves$Makings") ∈ gtbl := mg (mm_1 (List.mem_of_getElem? (i := 8) rfl)) rfl
set_option maxRecDepth 20000 in
theorem m_1_9 : (Jvm.Cond.initialized "DrawerGloves$Calendar") ∈ gtbl := mg (mm_1 (List.mem_of_getElem? (i := 9) rfl)) rfl
set_option maxRecDepth 20000 in
theorem m_1_10 : (Jvm.Cond.initialized "DrawerGloves$Guess") ∈ gtbl := mg (mm_1 (List.mem_of_getElem? (i := 10) rfl)) rfl
set_option maxRecDepth 20000 in
theorem m_1_11 : (Jvm.Cond.initialized "DrawerGloves$Rivals") ∈ gtbl := mg (mm_1 (List.mem_of_getElem? (i := 11) rfl)) rfl
set_option maxRecDepth 20000 in
theorem m_1_12 : (Jvm.Cond.initialized "DrawerGloves$Chances") ∈ gtbl := mg (mm_1 (List.mem_of_getElem? (i := 12) rfl)) rfl
set_option maxRecDepth 20000 in
theorem m_1_13 : (Jvm.Cond.initialized "DrawerGlovesModel") ∈ gtbl := mg (mm_1 (List.mem_of_getElem? (i := 13) rfl)) rfl
set_option maxRecDepth 20000 in
theorem m_1_14 : (Jvm.Cond.initialized "java/lang/System") ∈ gtbl := mg (mm_1 (List.mem_of_getElem? (i := 14) rfl)) rfl
set_option maxRecDepth 20000 in
theorem m_1_15 : (Jvm.Cond.initialized "java/lang/Integer") ∈ gtbl := mg (mm_1 (List.mem_of_getElem? (i := 15) rfl)) rfl
set_option maxRecDepth 20000 in
theorem m_1_16 : (Jvm.Cond.classLink "DrawerGlovesLaw" (7 : Nat) "DrawerGloves") ∈ gtbl := mg (mm_1 (List.mem_of_getElem? (i := 16) rfl)) rfl
set_option maxRecDepth 20000 in
theorem m_1_17 : (Jvm.Cond.instantiable "DrawerGloves" (13 : Nat)) ∈ gtbl := mg (mm_1 (List.mem_of_getElem? (i := 17) rfl)) rfl
set_option maxRecDepth 20000 in
theorem m_1_18 : (Jvm.Cond.methodLink "DrawerGlovesLaw" (9 : Nat) ({ cls := "DrawerGloves", name := "<init>", desc := "()V" } : Jvm.MethodName)) ∈ gtbl := mg (mm_1 (List.mem_of_getElem? (i := 18) rfl)) rfl
set_option maxRecDepth 20000 in
theorem m_1_19 : (Jvm.Cond.instanceMethod ({ cls := "DrawerGloves", name := "<init>", desc := "()V" } : Jvm.MethodName)) ∈ gtbl := mg (mm_1 (List.mem_of_getElem? (i := 19) rfl)) rfl
set_option maxRecDepth 20000 in
theorem m_1_20 : (Jvm.Cond.code ({ cls := "DrawerGloves", name := "<init>", desc := "()V" } : Jvm.MethodName) prog_1_method_1_code (2 : Nat) (Option.none : Option Jvm.ClassFile.FieldType)) ∈ gtbl := mg (mm_1 (List.mem_of_getElem? (i := 20) rfl)) rfl
set_option maxRecDepth 20000 in
theorem m_1_21 : (Jvm.Cond.methodLink "DrawerGloves" (1 : Nat) ({ cls := "java/lang/Object", name := "<init>", desc := "()V" } : Jvm.MethodName)) ∈ gtbl := mg (mm_1 (List.mem_of_getElem? (i := 21) rfl)) rfl
set_option maxRecDepth 20000 in
theorem m_1_22 : (Jvm.Cond.instanceMethod ({ cls := "java/lang/Object", name := "<init>", desc := "()V" } : Jvm.MethodName)) ∈ gtbl := mg (mm_1 (List.mem_of_getElem? (i := 22) rfl)) rfl
set_option maxRecDepth 20000 in
theorem m_1_23 : (Jvm.Cond.code ({ cls := "java/lang/Object", name := "<init>", desc := "()V" } : Jvm.MethodName) object_method_1_code (1 : Nat) (Option.none : Option Jvm.ClassFile.FieldType)) ∈ gtbl := mg (mm_1 (List.mem_of_getElem? (i := 23) rfl)) rfl
set_option maxRecDepth 20000 in
theorem m_1_24 : (Jvm.Cond.classLink "DrawerGloves" (7 : Nat) "DrawerGloves$Rows") ∈ gtbl := mg (mm_1 (List.mem_of_getElem? (i := 24) rfl)) rfl
set_option maxRecDepth 20000 in
theorem m_1_25 : (Jvm.Cond.instantiable "DrawerGloves$Rows" (4 : Nat)) ∈ gtbl := mg (mm_1 (List.mem_of_getElem? (i := 25) rfl)) rfl
set_option maxRecDepth 20000 in
theorem m_1_26 : (Jvm.Cond.methodLink "DrawerGloves" (11 : Nat) ({ cls := "DrawerGloves$Rows", name := "<init>", desc := "(III)V" } : Jvm.MethodName)) ∈ gtbl := mg (mm_1 (List.mem_of_getElem? (i := 26) rfl)) rfl
set_option maxRecDepth 20000 in
theorem m_1_27 : (Jvm.Cond.instanceMethod ({ cls := "DrawerGloves$Rows", name := "<init>", desc := "(III)V" } : Jvm.MethodName)) ∈ gtbl := mg (mm_1 (List.mem_of_getElem? (i := 27) rfl)) rfl
set_option maxRecDepth 20000 in
theorem m_1_28 : (Jvm.Cond.code ({ cls := "DrawerGloves$Rows", name := "<init>", desc := "(III)V" } : Jvm.MethodName) prog_11_method_1_code (6 : Nat) (Option.none : Option Jvm.ClassFile.FieldType)) ∈ gtbl := mg (mm_1 (List.mem_of_getElem? (i := 28) rfl)) rfl
set_option maxRecDepth 20000 in
theorem m_1_29 : (Jvm.Cond.methodLink "DrawerGloves$Rows" (3 : Nat) ({ cls := "java/lang/Object", name := "<init>", desc := "()V" } : Jvm.MethodName)) ∈ gtbl := mg (mm_1 (List.mem_of_getElem? (i := 29) rfl)) rfl
set_option maxRecDepth 20000 in
theorem m_1_30 : (Jvm.Cond.methodLink "DrawerGloves$Rows" (9 : Nat) ({ cls := "java/lang/Math", name := "max", desc := "(II)I" } : Jvm.MethodName)) ∈ gtbl := mg (mm_1 (List.mem_of_getElem? (i := 30) rfl)) rfl
set_option maxRecDepth 20000 in
theorem m_1_31 : (Jvm.Cond.static ({ cls := "java/lang/Math", name := "max", desc := "(II)I" } : Jvm.MethodName)) ∈ gtbl := mg (mm_1 (List.mem_of_getElem? (i := 31) rfl)) rfl
set_option maxRecDepth 20000 in
theorem m_1_32 : (Jvm.Cond.code ({ cls := "java/lang/Math", name := "max", desc := "(II)I" } : Jvm.MethodName) prog_15_method_65_code (2 : Nat) (Option.some Jvm.ClassFile.FieldType.int)) ∈ gtbl := mg (mm_1 (List.mem_of_getElem? (i := 32) rfl)) rfl
set_option maxRecDepth 20000 in
theorem m_1_33 : (Jvm.Cond.classLink "DrawerGloves$Rows" (24 : Nat) "[[I") ∈ gtbl := mg (mm_1 (List.mem_of_getElem? (i := 33) rfl)) rfl
set_option maxRecDepth 20000 in
theorem m_1_34 : (Jvm.Cond.arrayOver (Jvm.ClassFile.FieldType.array Jvm.ClassFile.FieldType.int)) ∈ lw_tbl := mm_1 (List.mem_of_getElem? (i := 34) rfl)
set_option maxRecDepth 20000 in
theorem m_1_35 : (Jvm.Cond.fieldLink "DrawerGloves$Rows" (26 : Nat) "DrawerGloves$Rows" "places" "[[I") ∈ gtbl := mg (mm_1 (List.mem_of_getElem? (i := 35) rfl)) rfl
set_option maxRecDepth 20000 in
theorem m_1_36 : (Jvm.Cond.fieldLink "DrawerGloves$Rows" (29 : Nat) "DrawerGloves$Rows" "sizes" "[I") ∈ gtbl := mg (mm_1 (List.mem_of_getElem? (i := 36) rfl)) rfl
set_option maxRecDepth 20000 in
theorem m_1_37 : (Jvm.Cond.fieldLink "DrawerGloves$Rows" (15 : Nat) "DrawerGloves$Rows" "mostPlaces" "I") ∈ gtbl := mg (mm_1 (List.mem_of_getElem? (i := 37) rfl)) rfl
set_option maxRecDepth 20000 in
theorem m_1_38 : (Jvm.Cond.fieldLink "DrawerGloves$Rows" (21 : Nat) "DrawerGloves$Rows" "filler" "I") ∈ gtbl := mg (mm_1 (List.mem_of_getElem? (i := 38) rfl)) rfl
set_option maxRecDepth 20000 in
theorem m_1_39 : (Jvm.Cond.laysFinal "DrawerGloves$Rows" "DrawerGloves$Rows" "places" "[[I") ∈ gtbl := mg (mm_1 (List.mem_of_getElem? (i := 39) rfl)) rfl
set_option maxRecDepth 20000 in
theorem m_1_41 : (Jvm.Cond.laysFinal "DrawerGloves$Rows" "DrawerGloves$Rows" "sizes" "[I") ∈ gtbl := mg (mm_1 (List.mem_of_getElem? (i := 41) rfl)) rfl
set_option maxRecDepth 20000 in
theorem m_1_43 : (Jvm.Cond.laysFinal "DrawerGloves$Rows" "DrawerGloves$Rows" "mostPlaces" "I") ∈ gtbl := mg (mm_1 (List.mem_of_getElem? (i := 43) rfl)) rfl
set_option maxRecDepth 20000 in
theorem m_1_45 : (Jvm.Cond.laysFinal "DrawerGloves$Rows" "DrawerGloves$Rows" "filler" "I") ∈ gtbl := mg (mm_1 (List.mem_of_getElem? (i := 45) rfl)) rfl
set_option maxRecDepth 20000 in
theorem m_1_48 : (Jvm.Cond.arrayClass Jvm.ClassFile.FieldType.int) ∈ gtbl := mg (mm_1 (List.mem_of_getElem? (i := 48) rfl)) rfl
set_option maxRecDepth 20000 in
theorem m_1_49 : (Jvm.Cond.classLink "DrawerGloves" (21 : Nat) "DrawerGloves$Reading") ∈ gtbl := mg (mm_1 (List.mem_of_getElem? (i := 49) rfl)) rfl
set_option maxRecDepth 20000 in
theorem m_1_50 : (Jvm.Cond.instantiable "DrawerGloves$Reading" (6 : Nat)) ∈ gtbl := mg (mm_1 (List.mem_of_getElem? (i := 50) rfl)) rfl
set_option maxRecDepth 20000 in
theorem m_1_51 : (Jvm.Cond.methodLink "DrawerGloves" (23 : Nat) ({ cls := "DrawerGloves$Reading", name := "<init>", desc := "()V" } : Jvm.MethodName)) ∈ gtbl := mg (mm_1 (List.mem_of_getElem? (i := 51) rfl)) rfl
set_option maxRecDepth 20000 in
theorem m_1_52 : (Jvm.Cond.instanceMethod ({ cls := "DrawerGloves$Reading", name := "<init>", desc := "()V" } : Jvm.MethodName)) ∈ gtbl := mg (mm_1 (List.mem_of_getElem? (i := 52) rfl)) rfl
set_option maxRecDepth 20000 in
theorem m_1_53 : (Jvm.Cond.code ({ cls := "DrawerGloves$Reading", name := "<init>", desc := "()V" } : Jvm.MethodName) prog_9_method_1_code (1 : Nat) (Option.none : Option Jvm.ClassFile.FieldType)) ∈ gtbl := mg (mm_1 (List.mem_of_getElem? (i := 53) rfl)) rfl
set_option maxRecDepth 20000 in
theorem m_1_54 : (Jvm.Cond.methodLink "DrawerGloves$Reading" (3 : Nat) ({ cls := "java/lang/Object", name := "<init>", desc := "()V" } : Jvm.MethodName)) ∈ gtbl := mg (mm_1 (List.mem_of_getElem? (i := 54) rfl)) rfl
set_option maxRecDepth 20000 in
theorem m_1_55 : (Jvm.Cond.fieldLink "DrawerGloves$Reading" (9 : Nat) "DrawerGloves$Reading" "kind" "[I") ∈ gtbl := mg (mm_1 (List.mem_of_getElem? (i := 55) rfl)) rfl
set_option maxRecDepth 20000 in
theorem m_1_56 : (Jvm.Cond.fieldLink "DrawerGloves$Drawer" (36 : Nat) "DrawerGloves$Reading" "kind" "[I") ∈ gtbl := mg (mm_1 (List.mem_of_getElem? (i := 56) rfl)) rfl
set_option maxRecDepth 20000 in
theorem m_1_57 : (Jvm.Cond.fieldLink "DrawerGloves$Reading" (15 : Nat) "DrawerGloves$Reading" "sort" "[I") ∈ gtbl := mg (mm_1 (List.mem_of_getElem? (i := 57) rfl)) rfl
set_option maxRecDepth 20000 in
theorem m_1_58 : (Jvm.Cond.fieldLink "DrawerGloves$Drawer" (42 : Nat) "DrawerGloves$Reading" "sort" "[I") ∈ gtbl := mg (mm_1 (List.mem_of_getElem? (i := 58) rfl)) rfl
set_option maxRecDepth 20000 in
theorem m_1_59 : (Jvm.Cond.fieldLink "DrawerGloves$Reading" (18 : Nat) "DrawerGloves$Reading" "hand" "[I") ∈ gtbl := mg (mm_1 (List.mem_of_getElem? (i := 59) rfl)) rfl
set_option maxRecDepth 20000 in
theorem m_1_60 : (Jvm.Cond.fieldLink "DrawerGloves$Drawer" (47 : Nat) "DrawerGloves$Reading" "hand" "[I") ∈ gtbl := mg (mm_1 (List.mem_of_getElem? (i := 60) rfl)) rfl
set_option maxRecDepth 20000 in
theorem m_1_61 : (Jvm.Cond.fieldLink "DrawerGloves$Reading" (21 : Nat) "DrawerGloves$Reading" "warm" "[I") ∈ gtbl := mg (mm_1 (List.mem_of_getElem? (i := 61) rfl)) rfl
set_option maxRecDepth 20000 in
theorem m_1_62 : (Jvm.Cond.fieldLink "DrawerGloves$Drawer" (52 : Nat) "DrawerGloves$Reading" "warm" "[I") ∈ gtbl := mg (mm_1 (List.mem_of_getElem? (i := 62) rfl)) rfl
set_option maxRecDepth 20000 in
theorem m_1_63 : (Jvm.Cond.fieldLink "DrawerGloves$Reading" (24 : Nat) "DrawerGloves$Reading" "size" "I") ∈ gtbl := mg (mm_1 (List.mem_of_getElem? (i := 63) rfl)) rfl
set_option maxRecDepth 20000 in
theorem m_1_64 : (Jvm.Cond.fieldLink "DrawerGloves$Drawer" (25 : Nat) "DrawerGloves$Reading" "size" "I") ∈ gtbl := mg (mm_1 (List.mem_of_getElem? (i := 64) rfl)) rfl
set_option maxRecDepth 20000 in
theorem m_1_65 : (Jvm.Cond.fieldLink "DrawerGloves$Drawer" (32 : Nat) "DrawerGloves$Reading" "room" "I") ∈ gtbl := mg (mm_1 (List.mem_of_getElem? (i := 65) rfl)) rfl
set_option maxRecDepth 20000 in
theorem m_1_66 : (Jvm.Cond.fieldLink "DrawerGloves$Reading" (46 : Nat) "DrawerGloves$Reading" "room" "I") ∈ gtbl := mg (mm_1 (List.mem_of_getElem? (i := 66) rfl)) rfl
set_option maxRecDepth 20000 in
theorem m_1_67 : (Jvm.Cond.laysFinal "DrawerGloves$Reading" "DrawerGloves$Reading" "kind" "[I") ∈ gtbl := mg (mm_1 (List.mem_of_getElem? (i := 67) rfl)) rfl
set_option maxRecDepth 20000 in
theorem m_1_69 : (Jvm.Cond.laysFinal "DrawerGloves$Reading" "DrawerGloves$Reading" "sort" "[I") ∈ gtbl := mg (mm_1 (List.mem_of_getElem? (i := 69) rfl)) rfl
set_option maxRecDepth 20000 in
theorem m_1_71 : (Jvm.Cond.laysFinal "DrawerGloves$Reading" "DrawerGloves$Reading" "hand" "[I") ∈ gtbl := mg (mm_1 (List.mem_of_getElem? (i := 71) rfl)) rfl
set_option maxRecDepth 20000 in
theorem m_1_73 : (Jvm.Cond.laysFinal "DrawerGloves$Reading" "DrawerGloves$Reading" "warm" "[I") ∈ gtbl := mg (mm_1 (List.mem_of_getElem? (i := 73) rfl)) rfl
set_option maxRecDepth 20000 in
theorem m_1_75 : (Jvm.Cond.lays "DrawerGloves$Reading" "DrawerGloves$Reading" "size" "I") ∈ gtbl := mg (mm_1 (List.mem_of_getElem? (i := 75) rfl)) rfl
set_option maxRecDepth 20000 in
theorem m_1_77 : (Jvm.Cond.lays "DrawerGloves$Reading" "DrawerGloves$Reading" "room" "I") ∈ gtbl := mg (mm_1 (List.mem_of_getElem? (i := 77) rfl)) rfl
set_option maxRecDepth 20000 in
theorem m_1_80 : (Jvm.Cond.classLink "DrawerGloves" (28 : Nat) "DrawerGloves$Drawer") ∈ gtbl := mg (mm_1 (List.mem_of_getElem? (i := 80) rfl)) rfl
set_option maxRecDepth 20000 in
theorem m_1_81 : (Jvm.Cond.instantiable "DrawerGloves$Drawer" (4 : Nat)) ∈ gtbl := mg (mm_1 (List.mem_of_getElem? (i := 81) rfl)) rfl
set_option maxRecDepth 20000 in
theorem m_1_82 : (Jvm.Cond.methodLink "DrawerGloves" (30 : Nat) ({ cls := "DrawerGloves$Drawer", name := "<init>", desc := "()V" } : Jvm.MethodName)) ∈ gtbl := mg (mm_1 (List.mem_of_getElem? (i := 82) rfl)) rfl
set_option maxRecDepth 20000 in
theorem m_1_83 : (Jvm.Cond.instanceMethod ({ cls := "DrawerGloves$Drawer", name := "<init>", desc := "()V" } : Jvm.MethodName)) ∈ gtbl := mg (mm_1 (List.mem_of_getElem? (i := 83) rfl)) rfl
set_option maxRecDepth 20000 in
theorem m_1_84 : (Jvm.Cond.code ({ cls := "DrawerGloves$Drawer", name := "<init>", desc := "()V" } : Jvm.MethodName) prog_5_method_1_code (2 : Nat) (Option.none : Option Jvm.ClassFile.FieldType)) ∈ gtbl := mg (mm_1 (List.mem_of_getElem? (i := 84) rfl)) rfl
set_option maxRecDepth 20000 in
theorem m_1_85 : (Jvm.Cond.methodLink "DrawerGloves$Drawer" (3 : Nat) ({ cls := "java/lang/Object", name := "<init>", desc := "()V" } : Jvm.MethodName)) ∈ gtbl := mg (mm_1 (List.mem_of_getElem? (i := 85) rfl)) rfl
set_option maxRecDepth 20000 in
theorem m_1_86 : (Jvm.Cond.classLink "DrawerGloves$Drawer" (9 : Nat) "DrawerGloves$Glove") ∈ gtbl := mg (mm_1 (List.mem_of_getElem? (i := 86) rfl)) rfl
set_option maxRecDepth 20000 in
theorem m_1_87 : (Jvm.Cond.arrayOver (Jvm.ClassFile.FieldType.object "DrawerGloves$Glove")) ∈ lw_tbl := mm_1 (List.mem_of_getElem? (i := 87) rfl)
set_option maxRecDepth 20000 in
theorem m_1_88 : (Jvm.Cond.classLink "DrawerGloves$Drawer" (17 : Nat) "DrawerGloves$Deeds") ∈ gtbl := mg (mm_1 (List.mem_of_getElem? (i := 88) rfl)) rfl
set_option maxRecDepth 20000 in
theorem m_1_89 : (Jvm.Cond.instantiable "DrawerGloves$Deeds" (2 : Nat)) ∈ gtbl := mg (mm_1 (List.mem_of_getElem? (i := 89) rfl)) rfl
set_option maxRecDepth 20000 in
theorem m_1_90 : (Jvm.Cond.methodLink "DrawerGloves$Drawer" (19 : Nat) ({ cls := "DrawerGloves$Deeds", name := "<init>", desc := "()V" } : Jvm.MethodName)) ∈ gtbl := mg (mm_1 (List.mem_of_getElem? (i := 90) rfl)) rfl
set_option maxRecDepth 20000 in
theorem m_1_91 : (Jvm.Cond.instanceMethod ({ cls := "DrawerGloves$Deeds", name := "<init>", desc := "()V" } : Jvm.MethodName)) ∈ gtbl := mg (mm_1 (List.mem_of_getElem? (i := 91) rfl)) rfl
set_option maxRecDepth 20000 in
theorem m_1_92 : (Jvm.Cond.code ({ cls := "DrawerGloves$Deeds", name := "<init>", desc := "()V" } : Jvm.MethodName) prog_4_method_1_code (1 : Nat) (Option.none : Option Jvm.ClassFile.FieldType)) ∈ gtbl := mg (mm_1 (List.mem_of_getElem? (i := 92) rfl)) rfl
set_option maxRecDepth 20000 in
theorem m_1_93 : (Jvm.Cond.methodLink "DrawerGloves$Deeds" (3 : Nat) ({ cls := "java/lang/Object", name := "<init>", desc := "()V" } : Jvm.MethodName)) ∈ gtbl := mg (mm_1 (List.mem_of_getElem? (i := 93) rfl)) rfl
set_option maxRecDepth 20000 in
theorem m_1_94 : (Jvm.Cond.fieldLink "DrawerGloves$Deeds" (9 : Nat) "DrawerGloves$Deeds" "codes" "[I") ∈ gtbl := mg (mm_1 (List.mem_of_getElem? (i := 94) rfl)) rfl
set_option maxRecDepth 20000 in
theorem m_1_95 : (Jvm.Cond.fieldLink "DrawerGloves$Drawer" (114 : Nat) "DrawerGloves$Deeds" "codes" "[I") ∈ gtbl := mg (mm_1 (List.mem_of_getElem? (i := 95) rfl)) rfl
set_option maxRecDepth 20000 in
theorem m_1_96 : (Jvm.Cond.fieldLink "DrawerGloves" (42 : Nat) "DrawerGloves$Deeds" "size" "I") ∈ gtbl := mg (mm_1 (List.mem_of_getElem? (i := 96) rfl)) rfl
set_option maxRecDepth 20000 in
theorem m_1_97 : (Jvm.Cond.fieldLink "DrawerGloves$Deeds" (15 : Nat) "DrawerGloves$Deeds" "size" "I") ∈ gtbl := mg (mm_1 (List.mem_of_getElem? (i := 97) rfl)) rfl
set_option maxRecDepth 20000 in
theorem m_1_98 : (Jvm.Cond.fieldLink "DrawerGloves$Drawer" (57 : Nat) "DrawerGloves$Deeds" "size" "I") ∈ gtbl := mg (mm_1 (List.mem_of_getElem? (i := 98) rfl)) rfl
set_option maxRecDepth 20000 in
theorem m_1_99 : (Jvm.Cond.laysFinal "DrawerGloves$Deeds" "DrawerGloves$Deeds" "codes" "[I") ∈ gtbl := mg (mm_1 (List.mem_of_getElem? (i := 99) rfl)) rfl
set_option maxRecDepth 20000 in
theorem m_1_101 : (Jvm.Cond.lays "DrawerGloves$Deeds" "DrawerGloves$Deeds" "size" "I") ∈ gtbl := mg (mm_1 (List.mem_of_getElem? (i := 101) rfl)) rfl
set_option maxRecDepth 20000 in
theorem m_1_104 : (Jvm.Cond.instantiable "DrawerGloves$Glove" (6 : Nat)) ∈ gtbl := mg (mm_1 (List.mem_of_getElem? (i := 104) rfl)) rfl
set_option maxRecDepth 20000 in
theorem m_1_105 : (Jvm.Cond.methodLink "DrawerGloves$Drawer" (24 : Nat) ({ cls := "DrawerGloves$Glove", name := "<init>", desc := "()V" } : Jvm.MethodName)) ∈ gtbl := mg (mm_1 (List.mem_of_getElem? (i := 105) rfl)) rfl
set_option maxRecDepth 20000 in
theorem m_1_106 : (Jvm.Cond.instanceMethod ({ cls := "DrawerGloves$Glove", name := "<init>", desc := "()V" } : Jvm.MethodName)) ∈ gtbl := mg (mm_1 (List.mem_of_getElem? (i := 106) rfl)) rfl
set_option maxRecDepth 20000 in
theorem m_1_107 : (Jvm.Cond.code ({ cls := "DrawerGloves$Glove", name := "<init>", desc := "()V" } : Jvm.MethodName) prog_6_method_1_code (1 : Nat) (Option.none : Option Jvm.ClassFile.FieldType)) ∈ gtbl := mg (mm_1 (List.mem_of_getElem? (i := 107) rfl)) rfl
set_option maxRecDepth 20000 in
theorem m_1_108 : (Jvm.Cond.methodLink "DrawerGloves$Glove" (3 : Nat) ({ cls := "java/lang/Object", name := "<init>", desc := "()V" } : Jvm.MethodName)) ∈ gtbl := mg (mm_1 (List.mem_of_getElem? (i := 108) rfl)) rfl
set_option maxRecDepth 20000 in
theorem m_1_109 : (Jvm.Cond.fieldLink "DrawerGloves$Glove" (9 : Nat) "DrawerGloves$Glove" "kind" "I") ∈ gtbl := mg (mm_1 (List.mem_of_getElem? (i := 109) rfl)) rfl
set_option maxRecDepth 20000 in
theorem m_1_110 : (Jvm.Cond.fieldLink "DrawerGloves$Drawer" (40 : Nat) "DrawerGloves$Glove" "kind" "I") ∈ gtbl := mg (mm_1 (List.mem_of_getElem? (i := 110) rfl)) rfl
set_option maxRecDepth 20000 in
theorem m_1_111 : (Jvm.Cond.fieldLink "DrawerGloves$Chances" (50 : Nat) "DrawerGloves$Glove" "kind" "I") ∈ gtbl := mg (mm_1 (List.mem_of_getElem? (i := 111) rfl)) rfl
set_option maxRecDepth 20000 in
theorem m_1_112 : (Jvm.Cond.fieldLink "DrawerGloves$Guess" (61 : Nat) "DrawerGloves$Glove" "kind" "I") ∈ gtbl := mg (mm_1 (List.mem_of_getElem? (i := 112) rfl)) rfl
set_option maxRecDepth 20000 in
theorem m_1_113 : (Jvm.Cond.fieldLink "DrawerGloves$Makings" (83 : Nat) "DrawerGloves$Glove" "kind" "I") ∈ gtbl := mg (mm_1 (List.mem_of_getElem? (i := 113) rfl)) rfl
set_option maxRecDepth 20000 in
theorem m_1_114 : (Jvm.Cond.fieldLink "DrawerGloves$Glove" (15 : Nat) "DrawerGloves$Glove" "sort" "I") ∈ gtbl := mg (mm_1 (List.mem_of_getElem? (i := 114) rfl)) rfl
set_option maxRecDepth 20000 in
theorem m_1_115 : (Jvm.Cond.fieldLink "DrawerGloves$Drawer" (45 : Nat) "DrawerGloves$Glove" "sort" "I") ∈ gtbl := mg (mm_1 (List.mem_of_getElem? (i := 115) rfl)) rfl
set_option maxRecDepth 20000 in
theorem m_1_116 : (Jvm.Cond.fieldLink "DrawerGloves$Guess" (50 : Nat) "DrawerGloves$Glove" "sort" "I") ∈ gtbl := mg (mm_1 (List.mem_of_getElem? (i := 116) rfl)) rfl
set_option maxRecDepth 20000 in
theorem m_1_117 : (Jvm.Cond.fieldLink "DrawerGloves$Glove" (18 : Nat) "DrawerGloves$Glove" "hand" "I") ∈ gtbl := mg (mm_1 (List.mem_of_getElem? (i := 117) rfl)) rfl
set_option maxRecDepth 20000 in
theorem m_1_118 : (Jvm.Cond.fieldLink "DrawerGloves$Drawer" (50 : Nat) "DrawerGloves$Glove" "hand" "I") ∈ gtbl := mg (mm_1 (List.mem_of_getElem? (i := 118) rfl)) rfl
set_option maxRecDepth 20000 in
theorem m_1_119 : (Jvm.Cond.fieldLink "DrawerGloves$Chances" (65 : Nat) "DrawerGloves$Glove" "hand" "I") ∈ gtbl := mg (mm_1 (List.mem_of_getElem? (i := 119) rfl)) rfl
set_option maxRecDepth 20000 in
theorem m_1_120 : (Jvm.Cond.fieldLink "DrawerGloves$Guess" (58 : Nat) "DrawerGloves$Glove" "hand" "I") ∈ gtbl := mg (mm_1 (List.mem_of_getElem? (i := 120) rfl)) rfl
set_option maxRecDepth 20000 in
theorem m_1_121 : (Jvm.Cond.fieldLink "DrawerGloves$Glove" (21 : Nat) "DrawerGloves$Glove" "warm" "I") ∈ gtbl := mg (mm_1 (List.mem_of_getElem? (i := 121) rfl)) rfl
set_option maxRecDepth 20000 in
theorem m_1_122 : (Jvm.Cond.fieldLink "DrawerGloves$Drawer" (55 : Nat) "DrawerGloves$Glove" "warm" "I") ∈ gtbl := mg (mm_1 (List.mem_of_getElem? (i := 122) rfl)) rfl
set_option maxRecDepth 20000 in
theorem m_1_123 : (Jvm.Cond.fieldLink "DrawerGloves$Glove" (24 : Nat) "DrawerGloves$Glove" "wear" "I") ∈ gtbl := mg (mm_1 (List.mem_of_getElem? (i := 123) rfl)) rfl
set_option maxRecDepth 20000 in
theorem m_1_124 : (Jvm.Cond.fieldLink "DrawerGloves$Calendar" (81 : Nat) "DrawerGloves$Glove" "wear" "I") ∈ gtbl := mg (mm_1 (List.mem_of_getElem? (i := 124) rfl)) rfl
set_option maxRecDepth 20000 in
theorem m_1_125 : (Jvm.Cond.fieldLink "DrawerGloves$Drawer" (84 : Nat) "DrawerGloves$Glove" "wear" "I") ∈ gtbl := mg (mm_1 (List.mem_of_getElem? (i := 125) rfl)) rfl
set_option maxRecDepth 20000 in
theorem m_1_126 : (Jvm.Cond.fieldLink "DrawerGloves" (185 : Nat) "DrawerGloves$Glove" "wear" "I") ∈ gtbl := mg (mm_1 (List.mem_of_getElem? (i := 126) rfl)) rfl
set_option maxRecDepth 20000 in
theorem m_1_127 : (Jvm.Cond.fieldLink "DrawerGloves$Glove" (27 : Nat) "DrawerGloves$Glove" "where" "I") ∈ gtbl := mg (mm_1 (List.mem_of_getElem? (i := 127) rfl)) rfl
set_option maxRecDepth 20000 in
theorem m_1_128 : (Jvm.Cond.fieldLink "DrawerGloves$Drawer" (65 : Nat) "DrawerGloves$Glove" "where" "I") ∈ gtbl := mg (mm_1 (List.mem_of_getElem? (i := 128) rfl)) rfl
set_option maxRecDepth 20000 in
theorem m_1_129 : (Jvm.Cond.fieldLink "DrawerGloves" (220 : Nat) "DrawerGloves$Glove" "where" "I") ∈ gtbl := mg (mm_1 (List.mem_of_getElem? (i := 129) rfl)) rfl
set_option maxRecDepth 20000 in
theorem m_1_130 : (Jvm.Cond.lays "DrawerGloves$Glove" "DrawerGloves$Glove" "kind" "I") ∈ gtbl := mg (mm_1 (List.mem_of_getElem? (i := 130) rfl)) rfl
set_option maxRecDepth 20000 in
theorem m_1_132 : (Jvm.Cond.lays "DrawerGloves$Glove" "DrawerGloves$Glove" "sort" "I") ∈ gtbl := mg (mm_1 (List.mem_of_getElem? (i := 132) rfl)) rfl
set_option maxRecDepth 20000 in
theorem m_1_134 : (Jvm.Cond.lays "DrawerGloves$Glove" "DrawerGloves$Glove" "hand" "I") ∈ gtbl := mg (mm_1 (List.mem_of_getElem? (i := 134) rfl)) rfl
set_option maxRecDepth 20000 in
theorem m_1_136 : (Jvm.Cond.lays "DrawerGloves$Glove" "DrawerGloves$Glove" "warm" "I") ∈ gtbl := mg (mm_1 (List.mem_of_getElem? (i := 136) rfl)) rfl
set_option maxRecDepth 20000 in
theorem m_1_138 : (Jvm.Cond.lays "DrawerGloves$Glove" "DrawerGloves$Glove" "wear" "I") ∈ gtbl := mg (mm_1 (List.mem_of_getElem? (i := 138) rfl)) rfl
set_option maxRecDepth 20000 in
theorem m_1_140 : (Jvm.Cond.lays "DrawerGloves$Glove" "DrawerGloves$Glove" "where" "I") ∈ gtbl := mg (mm_1 (List.mem_of_getElem? (i := 140) rfl)) rfl
set_option maxRecDepth 20000 in
theorem m_1_143 : (Jvm.Cond.fieldLink "DrawerGloves$Drawer" (11 : Nat) "DrawerGloves$Drawer" "gloves" "[LDrawerGloves$Glove;") ∈ gtbl := mg (mm_1 (List.mem_of_getElem? (i := 143) rfl)) rfl
set_option maxRecDepth 20000 in
theorem m_1_144 : (Jvm.Cond.fieldLink "DrawerGloves$Makings" (30 : Nat) "DrawerGloves$Drawer" "gloves" "[LDrawerGloves$Glove;") ∈ gtbl := mg (mm_1 (List.mem_of_getElem? (i := 144) rfl)) rfl
set_option maxRecDepth 20000 in
theorem m_1_145 : (Jvm.Cond.fieldLink "DrawerGloves$Chances" (32 : Nat) "DrawerGloves$Drawer" "gloves" "[LDrawerGloves$Glove;") ∈ gtbl := mg (mm_1 (List.mem_of_getElem? (i := 145) rfl)) rfl
set_option maxRecDepth 20000 in
theorem m_1_146 : (Jvm.Cond.fieldLink "DrawerGloves$Calendar" (54 : Nat) "DrawerGloves$Drawer" "gloves" "[LDrawerGloves$Glove;") ∈ gtbl := mg (mm_1 (List.mem_of_getElem? (i := 146) rfl)) rfl
set_option maxRecDepth 20000 in
theorem m_1_147 : (Jvm.Cond.fieldLink "DrawerGloves$Guess" (38 : Nat) "DrawerGloves$Drawer" "gloves" "[LDrawerGloves$Glove;") ∈ gtbl := mg (mm_1 (List.mem_of_getElem? (i := 147) rfl)) rfl
set_option maxRecDepth 20000 in
theorem m_1_148 : (Jvm.Cond.fieldLink "DrawerGloves" (160 : Nat) "DrawerGloves$Drawer" "gloves" "[LDrawerGloves$Glove;") ∈ gtbl := mg (mm_1 (List.mem_of_getElem? (i := 148) rfl)) rfl
set_option maxRecDepth 20000 in
theorem m_1_149 : (Jvm.Cond.fieldLink "DrawerGloves$Drawer" (20 : Nat) "DrawerGloves$Drawer" "deeds" "LDrawerGloves$Deeds;") ∈ gtbl := mg (mm_1 (List.mem_of_getElem? (i := 149) rfl)) rfl
set_option maxRecDepth 20000 in
theorem m_1_150 : (Jvm.Cond.fieldLink "DrawerGloves" (204 : Nat) "DrawerGloves$Drawer" "deeds" "LDrawerGloves$Deeds;") ∈ gtbl := mg (mm_1 (List.mem_of_getElem? (i := 150) rfl)) rfl
set_option maxRecDepth 20000 in
theorem m_1_151 : (Jvm.Cond.fieldLink "DrawerGloves$Makings" (24 : Nat) "DrawerGloves$Drawer" "size" "I") ∈ gtbl := mg (mm_1 (List.mem_of_getElem? (i := 151) rfl)) rfl
set_option maxRecDepth 20000 in
theorem m_1_152 : (Jvm.Cond.fieldLink "DrawerGloves$Drawer" (31 : Nat) "DrawerGloves$Drawer" "size" "I") ∈ gtbl := mg (mm_1 (List.mem_of_getElem? (i := 152) rfl)) rfl
set_option maxRecDepth 20000 in
theorem m_1_153 : (Jvm.Cond.fieldLink "DrawerGloves$Chances" (28 : Nat) "DrawerGloves$Drawer" "size" "I") ∈ gtbl := mg (mm_1 (List.mem_of_getElem? (i := 153) rfl)) rfl
set_option maxRecDepth 20000 in
theorem m_1_154 : (Jvm.Cond.fieldLink "DrawerGloves$Calendar" (53 : Nat) "DrawerGloves$Drawer" "size" "I") ∈ gtbl := mg (mm_1 (List.mem_of_getElem? (i := 154) rfl)) rfl
set_option maxRecDepth 20000 in
theorem m_1_155 : (Jvm.Cond.fieldLink "DrawerGloves$Guess" (64 : Nat) "DrawerGloves$Drawer" "size" "I") ∈ gtbl := mg (mm_1 (List.mem_of_getElem? (i := 155) rfl)) rfl
set_option maxRecDepth 20000 in
theorem m_1_156 : (Jvm.Cond.fieldLink "DrawerGloves" (156 : Nat) "DrawerGloves$Drawer" "size" "I") ∈ gtbl := mg (mm_1 (List.mem_of_getElem? (i := 156) rfl)) rfl
set_option maxRecDepth 20000 in
theorem m_1_157 : (Jvm.Cond.fieldLink "DrawerGloves$Drawer" (35 : Nat) "DrawerGloves$Drawer" "room" "I") ∈ gtbl := mg (mm_1 (List.mem_of_getElem? (i := 157) rfl)) rfl
set_option maxRecDepth 20000 in
theorem m_1_158 : (Jvm.Cond.fieldLink "DrawerGloves$Makings" (72 : Nat) "DrawerGloves$Drawer" "room" "I") ∈ gtbl := mg (mm_1 (List.mem_of_getElem? (i := 158) rfl)) rfl
set_option maxRecDepth 20000 in
theorem m_1_159 : (Jvm.Cond.fieldLink "DrawerGloves" (322 : Nat) "DrawerGloves$Drawer" "room" "I") ∈ gtbl := mg (mm_1 (List.mem_of_getElem? (i := 159) rfl)) rfl
set_option maxRecDepth 20000 in
theorem m_1_160 : (Jvm.Cond.laysFinal "DrawerGloves$Drawer" "DrawerGloves$Drawer" "gloves" "[LDrawerGloves$Glove;") ∈ gtbl := mg (mm_1 (List.mem_of_getElem? (i := 160) rfl)) rfl
set_option maxRecDepth 20000 in
theorem m_1_162 : (Jvm.Cond.laysFinal "DrawerGloves$Drawer" "DrawerGloves$Drawer" "deeds" "LDrawerGloves$Deeds;") ∈ gtbl := mg (mm_1 (List.mem_of_getElem? (i := 162) rfl)) rfl
set_option maxRecDepth 20000 in
theorem m_1_164 : (Jvm.Cond.lays "DrawerGloves$Drawer" "DrawerGloves$Drawer" "size" "I") ∈ gtbl := mg (mm_1 (List.mem_of_getElem? (i := 164) rfl)) rfl
set_option maxRecDepth 20000 in
theorem m_1_166 : (Jvm.Cond.lays "DrawerGloves$Drawer" "DrawerGloves$Drawer" "room" "I") ∈ gtbl := mg (mm_1 (List.mem_of_getElem? (i := 166) rfl)) rfl
set_option maxRecDepth 20000 in
theorem m_1_169 : (Jvm.Cond.classLink "DrawerGloves" (35 : Nat) "DrawerGloves$Deeds") ∈ gtbl := mg (mm_1 (List.mem_of_getElem? (i := 169) rfl)) rfl
set_option maxRecDepth 20000 in
theorem m_1_170 : (Jvm.Cond.arrayOver (Jvm.ClassFile.FieldType.object "DrawerGloves$Deeds")) ∈ lw_tbl := mm_1 (List.mem_of_getElem? (i := 170) rfl)
set_option maxRecDepth 20000 in
theorem m_1_171 : (Jvm.Cond.methodLink "DrawerGloves" (41 : Nat) ({ cls := "DrawerGloves$Deeds", name := "<init>", desc := "()V" } : Jvm.MethodName)) ∈ gtbl := mg (mm_1 (List.mem_of_getElem? (i := 171) rfl)) rfl
set_option maxRecDepth 20000 in
theorem m_1_172 : (Jvm.Cond.classLink "DrawerGloves" (46 : Nat) "DrawerGloves$Makings") ∈ gtbl := mg (mm_1 (List.mem_of_getElem? (i := 172) rfl)) rfl
set_option maxRecDepth 20000 in
theorem m_1_173 : (Jvm.Cond.instantiable "DrawerGloves$Makings" (4 : Nat)) ∈ gtbl := mg (mm_1 (List.mem_of_getElem? (i := 173) rfl)) rfl
set_option maxRecDepth 20000 in
theorem m_1_174 : (Jvm.Cond.methodLink "DrawerGloves" (48 : Nat) ({ cls := "DrawerGloves$Makings", name := "<init>", desc := "()V" } : Jvm.MethodName)) ∈ gtbl := mg (mm_1 (List.mem_of_getElem? (i := 174) rfl)) rfl
set_option maxRecDepth 20000 in
theorem m_1_175 : (Jvm.Cond.instanceMethod ({ cls := "DrawerGloves$Makings", name := "<init>", desc := "()V" } : Jvm.MethodName)) ∈ gtbl := mg (mm_1 (List.mem_of_getElem? (i := 175) rfl)) rfl
set_option maxRecDepth 20000 in
theorem m_1_176 : (Jvm.Cond.code ({ cls := "DrawerGloves$Makings", name := "<init>", desc := "()V" } : Jvm.MethodName) prog_8_method_1_code (1 : Nat) (Option.none : Option Jvm.ClassFile.FieldType)) ∈ gtbl := mg (mm_1 (List.mem_of_getElem? (i := 176) rfl)) rfl
set_option maxRecDepth 20000 in
theorem m_1_177 : (Jvm.Cond.methodLink "DrawerGloves$Makings" (3 : Nat) ({ cls := "java/lang/Object", name := "<init>", desc := "()V" } : Jvm.MethodName)) ∈ gtbl := mg (mm_1 (List.mem_of_getElem? (i := 177) rfl)) rfl
set_option maxRecDepth 20000 in
theorem m_1_178 : (Jvm.Cond.fieldLink "DrawerGloves$Makings" (9 : Nat) "DrawerGloves$Makings" "worth" "[I") ∈ gtbl := mg (mm_1 (List.mem_of_getElem? (i := 178) rfl)) rfl
set_option maxRecDepth 20000 in
theorem m_1_179 : (Jvm.Cond.fieldLink "DrawerGloves$Makings" (15 : Nat) "DrawerGloves$Makings" "best" "[I") ∈ gtbl := mg (mm_1 (List.mem_of_getElem? (i := 179) rfl)) rfl
set_option maxRecDepth 20000 in
theorem m_1_180 : (Jvm.Cond.fieldLink "DrawerGloves$Rivals" (23 : Nat) "DrawerGloves$Makings" "best" "[I") ∈ gtbl := mg (mm_1 (List.mem_of_getElem? (i := 180) rfl)) rfl
set_option maxRecDepth 20000 in
theorem m_1_181 : (Jvm.Cond.fieldLink "DrawerGloves" (244 : Nat) "DrawerGloves$Makings" "best" "[I") ∈ gtbl := mg (mm_1 (List.mem_of_getElem? (i := 181) rfl)) rfl
set_option maxRecDepth 20000 in
theorem m_1_182 : (Jvm.Cond.fieldLink "DrawerGloves$Makings" (18 : Nat) "DrawerGloves$Makings" "most" "[I") ∈ gtbl := mg (mm_1 (List.mem_of_getElem? (i := 182) rfl)) rfl
set_option maxRecDepth 20000 in
theorem m_1_183 : (Jvm.Cond.fieldLink "DrawerGloves" (241 : Nat) "DrawerGloves$Makings" "most" "[I") ∈ gtbl := mg (mm_1 (List.mem_of_getElem? (i := 183) rfl)) rfl
set_option maxRecDepth 20000 in
theorem m_1_184 : (Jvm.Cond.fieldLink "DrawerGloves$Makings" (21 : Nat) "DrawerGloves$Makings" "enough" "[I") ∈ gtbl := mg (mm_1 (List.mem_of_getElem? (i := 184) rfl)) rfl
set_option maxRecDepth 20000 in
theorem m_1_185 : (Jvm.Cond.fieldLink "DrawerGloves" (298 : Nat) "DrawerGloves$Makings" "enough" "[I") ∈ gtbl := mg (mm_1 (List.mem_of_getElem? (i := 185) rfl)) rfl
set_option maxRecDepth 20000 in
theorem m_1_186 : (Jvm.Cond.laysFinal "DrawerGloves$Makings" "DrawerGloves$Makings" "worth" "[I") ∈ gtbl := mg (mm_1 (List.mem_of_getElem? (i := 186) rfl)) rfl
set_option maxRecDepth 20000 in
theorem m_1_188 : (Jvm.Cond.laysFinal "DrawerGloves$Makings" "DrawerGloves$Makings" "best" "[I") ∈ gtbl := mg (mm_1 (List.mem_of_getElem? (i := 188) rfl)) rfl
set_option maxRecDepth 20000 in
theorem m_1_190 : (Jvm.Cond.laysFinal "DrawerGloves$Makings" "DrawerGloves$Makings" "most" "[I") ∈ gtbl := mg (mm_1 (List.mem_of_getElem? (i := 190) rfl)) rfl
set_option maxRecDepth 20000 in
theorem m_1_192 : (Jvm.Cond.laysFinal "DrawerGloves$Makings" "DrawerGloves$Makings" "enough" "[I") ∈ gtbl := mg (mm_1 (List.mem_of_getElem? (i := 192) rfl)) rfl
set_option maxRecDepth 20000 in
theorem m_1_195 : (Jvm.Cond.classLink "DrawerGloves" (53 : Nat) "DrawerGloves$Calendar") ∈ gtbl := mg (mm_1 (List.mem_of_getElem? (i := 195) rfl)) rfl
set_option maxRecDepth 20000 in
theorem m_1_196 : (Jvm.Cond.instantiable "DrawerGloves$Calendar" (7 : Nat)) ∈ gtbl := mg (mm_1 (List.mem_of_getElem? (i := 196) rfl)) rfl
set_option maxRecDepth 20000 in
theorem m_1_197 : (Jvm.Cond.methodLink "DrawerGloves" (55 : Nat) ({ cls := "DrawerGloves$Calendar", name := "<init>", desc := "()V" } : Jvm.MethodName)) ∈ gtbl := mg (mm_1 (List.mem_of_getElem? (i := 197) rfl)) rfl
set_option maxRecDepth 20000 in
theorem m_1_198 : (Jvm.Cond.instanceMethod ({ cls := "DrawerGloves$Calendar", name := "<init>", desc := "()V" } : Jvm.MethodName)) ∈ gtbl := mg (mm_1 (List.mem_of_getElem? (i := 198) rfl)) rfl
set_option maxRecDepth 20000 in
theorem m_1_199 : (Jvm.Cond.code ({ cls := "DrawerGloves$Calendar", name := "<init>", desc := "()V" } : Jvm.MethodName) prog_2_method_1_code (1 : Nat) (Option.none : Option Jvm.ClassFile.FieldType)) ∈ gtbl := mg (mm_1 (List.mem_of_getElem? (i := 199) rfl)) rfl
set_option maxRecDepth 20000 in
theorem m_1_200 : (Jvm.Cond.methodLink "DrawerGloves$Calendar" (3 : Nat) ({ cls := "java/lang/Object", name := "<init>", desc := "()V" } : Jvm.MethodName)) ∈ gtbl := mg (mm_1 (List.mem_of_getElem? (i := 200) rfl)) rfl
set_option maxRecDepth 20000 in
theorem m_1_201 : (Jvm.Cond.classLink "DrawerGloves$Calendar" (9 : Nat) "DrawerGloves$Drawer") ∈ gtbl := mg (mm_1 (List.mem_of_getElem? (i := 201) rfl)) rfl
set_option maxRecDepth 20000 in
theorem m_1_202 : (Jvm.Cond.methodLink "DrawerGloves$Calendar" (11 : Nat) ({ cls := "DrawerGloves$Drawer", name := "<init>", desc := "()V" } : Jvm.MethodName)) ∈ gtbl := mg (mm_1 (List.mem_of_getElem? (i := 202) rfl)) rfl
set_option maxRecDepth 20000 in
theorem m_1_203 : (Jvm.Cond.fieldLink "DrawerGloves$Calendar" (12 : Nat) "DrawerGloves$Calendar" "worn" "LDrawerGloves$Drawer;") ∈ gtbl := mg (mm_1 (List.mem_of_getElem? (i := 203) rfl)) rfl
set_option maxRecDepth 20000 in
theorem m_1_204 : (Jvm.Cond.fieldLink "DrawerGloves$Calendar" (18 : Nat) "DrawerGloves$Calendar" "codes" "[I") ∈ gtbl := mg (mm_1 (List.mem_of_getElem? (i := 204) rfl)) rfl
set_option maxRecDepth 20000 in
theorem m_1_205 : (Jvm.Cond.fieldLink "DrawerGloves$Calendar" (22 : Nat) "DrawerGloves$Calendar" "way" "[I") ∈ gtbl := mg (mm_1 (List.mem_of_getElem? (i := 205) rfl)) rfl
set_option maxRecDepth 20000 in
theorem m_1_206 : (Jvm.Cond.fieldLink "DrawerGloves$Calendar" (25 : Nat) "DrawerGloves$Calendar" "bestWay" "[I") ∈ gtbl := mg (mm_1 (List.mem_of_getElem? (i := 206) rfl)) rfl
set_option maxRecDepth 20000 in
theorem m_1_207 : (Jvm.Cond.fieldLink "DrawerGloves$Calendar" (32 : Nat) "DrawerGloves$Calendar" "size" "I") ∈ gtbl := mg (mm_1 (List.mem_of_getElem? (i := 207) rfl)) rfl
set_option maxRecDepth 20000 in
theorem m_1_208 : (Jvm.Cond.fieldLink "DrawerGloves$Calendar" (64 : Nat) "DrawerGloves$Calendar" "dearest" "I") ∈ gtbl := mg (mm_1 (List.mem_of_getElem? (i := 208) rfl)) rfl
set_option maxRecDepth 20000 in
theorem m_1_209 : (Jvm.Cond.fieldLink "DrawerGloves$Calendar" (36 : Nat) "DrawerGloves$Calendar" "best" "I") ∈ gtbl := mg (mm_1 (List.mem_of_getElem? (i := 209) rfl)) rfl
set_option maxRecDepth 20000 in
theorem m_1_210 : (Jvm.Cond.laysFinal "DrawerGloves$Calendar" "DrawerGloves$Calendar" "worn" "LDrawerGloves$Drawer;") ∈ gtbl := mg (mm_1 (List.mem_of_getElem? (i := 210) rfl)) rfl
set_option maxRecDepth 20000 in
theorem m_1_212 : (Jvm.Cond.laysFinal "DrawerGloves$Calendar" "DrawerGloves$Calendar" "codes" "[I") ∈ gtbl := mg (mm_1 (List.mem_of_getElem? (i := 212) rfl)) rfl
set_option maxRecDepth 20000 in
theorem m_1_214 : (Jvm.Cond.laysFinal "DrawerGloves$Calendar" "DrawerGloves$Calendar" "way" "[I") ∈ gtbl := mg (mm_1 (List.mem_of_getElem? (i := 214) rfl)) rfl
set_option maxRecDepth 20000 in
theorem m_1_216 : (Jvm.Cond.laysFinal "DrawerGloves$Calendar" "DrawerGloves$Calendar" "bestWay" "[I") ∈ gtbl := mg (mm_1 (List.mem_of_getElem? (i := 216) rfl)) rfl
set_option maxRecDepth 20000 in
theorem m_1_218 : (Jvm.Cond.lays "DrawerGloves$Calendar" "DrawerGloves$Calendar" "size" "I") ∈ gtbl := mg (mm_1 (List.mem_of_getElem? (i := 218) rfl)) rfl
set_option maxRecDepth 20000 in
theorem m_1_220 : (Jvm.Cond.lays "DrawerGloves$Calendar" "DrawerGloves$Calendar" "dearest" "I") ∈ gtbl := mg (mm_1 (List.mem_of_getElem? (i := 220) rfl)) rfl
set_option maxRecDepth 20000 in
theorem m_1_222 : (Jvm.Cond.lays "DrawerGloves$Calendar" "DrawerGloves$Calendar" "best" "I") ∈ gtbl := mg (mm_1 (List.mem_of_getElem? (i := 222) rfl)) rfl
set_option maxRecDepth 20000 in
theorem m_1_225 : (Jvm.Cond.classLink "DrawerGloves" (60 : Nat) "DrawerGloves$Guess") ∈ gtbl := mg (mm_1 (List.mem_of_getElem? (i := 225) rfl)) rfl
set_option maxRecDepth 20000 in
theorem m_1_226 : (Jvm.Cond.instantiable "DrawerGloves$Guess" (2 : Nat)) ∈ gtbl := mg (mm_1 (List.mem_of_getElem? (i := 226) rfl)) rfl
set_option maxRecDepth 20000 in
theorem m_1_227 : (Jvm.Cond.methodLink "DrawerGloves" (62 : Nat) ({ cls := "DrawerGloves$Guess", name := "<init>", desc := "()V" } : Jvm.MethodName)) ∈ gtbl := mg (mm_1 (List.mem_of_getElem? (i := 227) rfl)) rfl
set_option maxRecDepth 20000 in
theorem m_1_228 : (Jvm.Cond.instanceMethod ({ cls := "DrawerGloves$Guess", name := "<init>", desc := "()V" } : Jvm.MethodName)) ∈ gtbl := mg (mm_1 (List.mem_of_getElem? (i := 228) rfl)) rfl
set_option maxRecDepth 20000 in
theorem m_1_229 : (Jvm.Cond.code ({ cls := "DrawerGloves$Guess", name := "<init>", desc := "()V" } : Jvm.MethodName) prog_7_method_1_code (1 : Nat) (Option.none : Option Jvm.ClassFile.FieldType)) ∈ gtbl := mg (mm_1 (List.mem_of_getElem? (i := 229) rfl)) rfl
set_option maxRecDepth 20000 in
theorem m_1_230 : (Jvm.Cond.methodLink "DrawerGloves$Guess" (3 : Nat) ({ cls := "java/lang/Object", name := "<init>", desc := "()V" } : Jvm.MethodName)) ∈ gtbl := mg (mm_1 (List.mem_of_getElem? (i := 230) rfl)) rfl
set_option maxRecDepth 20000 in
theorem m_1_231 : (Jvm.Cond.classLink "DrawerGloves$Guess" (9 : Nat) "DrawerGloves$Glove") ∈ gtbl := mg (mm_1 (List.mem_of_getElem? (i := 231) rfl)) rfl
set_option maxRecDepth 20000 in
theorem m_1_232 : (Jvm.Cond.methodLink "DrawerGloves$Guess" (11 : Nat) ({ cls := "DrawerGloves$Glove", name := "<init>", desc := "()V" } : Jvm.MethodName)) ∈ gtbl := mg (mm_1 (List.mem_of_getElem? (i := 232) rfl)) rfl
set_option maxRecDepth 20000 in
theorem m_1_233 : (Jvm.Cond.fieldLink "DrawerGloves$Guess" (12 : Nat) "DrawerGloves$Guess" "maybe" "LDrawerGloves$Glove;") ∈ gtbl := mg (mm_1 (List.mem_of_getElem? (i := 233) rfl)) rfl
set_option maxRecDepth 20000 in
theorem m_1_234 : (Jvm.Cond.fieldLink "DrawerGloves$Guess" (18 : Nat) "DrawerGloves$Guess" "outcome" "[I") ∈ gtbl := mg (mm_1 (List.mem_of_getElem? (i := 234) rfl)) rfl
set_option maxRecDepth 20000 in
theorem m_1_235 : (Jvm.Cond.laysFinal "DrawerGloves$Guess" "DrawerGloves$Guess" "maybe" "LDrawerGloves$Glove;") ∈ gtbl := mg (mm_1 (List.mem_of_getElem? (i := 235) rfl)) rfl
set_option maxRecDepth 20000 in
theorem m_1_237 : (Jvm.Cond.laysFinal "DrawerGloves$Guess" "DrawerGloves$Guess" "outcome" "[I") ∈ gtbl := mg (mm_1 (List.mem_of_getElem? (i := 237) rfl)) rfl
set_option maxRecDepth 20000 in
theorem m_2_0 : (Jvm.Cond.classLink "DrawerGloves" (67 : Nat) "DrawerGloves$Rivals") ∈ gtbl := mg (mm_2 (List.mem_of_getElem? (i := 0) rfl)) rfl
set_option maxRecDepth 20000 in
theorem m_2_1 : (Jvm.Cond.instantiable "DrawerGloves$Rivals" (2 : Nat)) ∈ gtbl := mg (mm_2 (List.mem_of_getElem? (i := 1) rfl)) rfl
set_option maxRecDepth 20000 in
theorem m_2_2 : (Jvm.Cond.methodLink "DrawerGloves" (69 : Nat) ({ cls := "DrawerGloves$Rivals", name := "<init>", desc := "()V" } : Jvm.MethodName)) ∈ gtbl := mg (mm_2 (List.mem_of_getElem? (i := 2) rfl)) rfl
set_option maxRecDepth 20000 in
theorem m_2_3 : (Jvm.Cond.instanceMethod ({ cls := "DrawerGloves$Rivals", name := "<init>", desc := "()V" } : Jvm.MethodName)) ∈ gtbl := mg (mm_2 (List.mem_of_getElem? (i := 3) rfl)) rfl
set_option maxRecDepth 20000 in
theorem m_2_4 : (Jvm.Cond.code ({ cls := "DrawerGloves$Rivals", name := "<init>", desc := "()V" } : Jvm.MethodName) prog_10_method_1_code (2 : Nat) (Option.none : Option Jvm.ClassFile.FieldType)) ∈ gtbl := mg (mm_2 (List.mem_of_getElem? (i := 4) rfl)) rfl
set_option maxRecDepth 20000 in
theorem m_2_5 : (Jvm.Cond.methodLink "DrawerGloves$Rivals" (3 : Nat) ({ cls := "java/lang/Object", name := "<init>", desc := "()V" } : Jvm.MethodName)) ∈ gtbl := mg (mm_2 (List.mem_of_getElem? (i := 5) rfl)) rfl
set_option maxRecDepth 20000 in
theorem m_2_6 : (Jvm.Cond.fieldLink "DrawerGloves$Rivals" (11 : Nat) "DrawerGloves$Rivals" "known" "[I") ∈ gtbl := mg (mm_2 (List.mem_of_getElem? (i := 6) rfl)) rfl
set_option maxRecDepth 20000 in
theorem m_2_7 : (Jvm.Cond.fieldLink "DrawerGloves$Rivals" (15 : Nat) "DrawerGloves$Rivals" "inThrees" "[I") ∈ gtbl := mg (mm_2 (List.mem_of_getElem? (i := 7) rfl)) rfl
set_option maxRecDepth 20000 in
theorem m_2_8 : (Jvm.Cond.laysFinal "DrawerGloves$Rivals" "DrawerGloves$Rivals" "known" "[I") ∈ gtbl := mg (mm_2 (List.mem_of_getElem? (i := 8) rfl)) rfl
set_option maxRecDepth 20000 in
theorem m_2_10 : (Jvm.Cond.laysFinal "DrawerGloves$Rivals" "DrawerGloves$Rivals" "inThrees" "[I") ∈ gtbl := mg (mm_2 (List.mem_of_getElem? (i := 10) rfl)) rfl
set_option maxRecDepth 20000 in
theorem m_2_13 : (Jvm.Cond.classLink "DrawerGloves" (74 : Nat) "DrawerGloves$Chances") ∈ gtbl := mg (mm_2 (List.mem_of_getElem? (i := 13) rfl)) rfl
set_option maxRecDepth 20000 in
theorem m_2_14 : (Jvm.Cond.instantiable "DrawerGloves$Chances" (3 : Nat)) ∈ gtbl := mg (mm_2 (List.mem_of_getElem? (i := 14) rfl)) rfl
set_option maxRecDepth 20000 in
theorem m_2_15 : (Jvm.Cond.methodLink "DrawerGloves" (76 : Nat) ({ cls := "DrawerGloves$Chances", name := "<init>", desc := "()V" } : Jvm.MethodName)) ∈ gtbl := mg (mm_2 (List.mem_of_getElem? (i := 15) rfl)) rfl
set_option maxRecDepth 20000 in
theorem m_2_16 : (Jvm.Cond.instanceMethod ({ cls := "DrawerGloves$Chances", name := "<init>", desc := "()V" } : Jvm.MethodName)) ∈ gtbl := mg (mm_2 (List.mem_of_getElem? (i := 16) rfl)) rfl
set_option maxRecDepth 20000 in
theorem m_2_17 : (Jvm.Cond.code ({ cls := "DrawerGloves$Chances", name := "<init>", desc := "()V" } : Jvm.MethodName) prog_3_method_1_code (1 : Nat) (Option.none : Option Jvm.ClassFile.FieldType)) ∈ gtbl := mg (mm_2 (List.mem_of_getElem? (i := 17) rfl)) rfl
set_option maxRecDepth 20000 in
theorem m_2_18 : (Jvm.Cond.methodLink "DrawerGloves$Chances" (3 : Nat) ({ cls := "java/lang/Object", name := "<init>", desc := "()V" } : Jvm.MethodName)) ∈ gtbl := mg (mm_2 (List.mem_of_getElem? (i := 18) rfl)) rfl
set_option maxRecDepth 20000 in
theorem m_2_19 : (Jvm.Cond.fieldLink "DrawerGloves$Chances" (9 : Nat) "DrawerGloves$Chances" "loss" "[I") ∈ gtbl := mg (mm_2 (List.mem_of_getElem? (i := 19) rfl)) rfl
set_option maxRecDepth 20000 in
theorem m_2_20 : (Jvm.Cond.fieldLink "DrawerGloves$Chances" (15 : Nat) "DrawerGloves$Chances" "upper" "J") ∈ gtbl := mg (mm_2 (List.mem_of_getElem? (i := 20) rfl)) rfl
set_option maxRecDepth 20000 in
theorem m_2_21 : (Jvm.Cond.fieldLink "DrawerGloves" (315 : Nat) "DrawerGloves$Chances" "upper" "J") ∈ gtbl := mg (mm_2 (List.mem_of_getElem? (i := 21) rfl)) rfl
set_option maxRecDepth 20000 in
theorem m_2_22 : (Jvm.Cond.fieldLink "DrawerGloves$Chances" (19 : Nat) "DrawerGloves$Chances" "lower" "J") ∈ gtbl := mg (mm_2 (List.mem_of_getElem? (i := 22) rfl)) rfl
set_option maxRecDepth 20000 in
theorem m_2_23 : (Jvm.Cond.fieldLink "DrawerGloves" (319 : Nat) "DrawerGloves$Chances" "lower" "J") ∈ gtbl := mg (mm_2 (List.mem_of_getElem? (i := 23) rfl)) rfl
set_option maxRecDepth 20000 in
theorem m_2_24 : (Jvm.Cond.laysFinal "DrawerGloves$Chances" "DrawerGloves$Chances" "loss" "[I") ∈ gtbl := mg (mm_2 (List.mem_of_getElem? (i := 24) rfl)) rfl
set_option maxRecDepth 20000 in
theorem m_2_26 : (Jvm.Cond.lays "DrawerGloves$Chances" "DrawerGloves$Chances" "upper" "J") ∈ gtbl := mg (mm_2 (List.mem_of_getElem? (i := 26) rfl)) rfl
set_option maxRecDepth 20000 in
theorem m_2_28 : (Jvm.Cond.lays "DrawerGloves$Chances" "DrawerGloves$Chances" "lower" "J") ∈ gtbl := mg (mm_2 (List.mem_of_getElem? (i := 28) rfl)) rfl
set_option maxRecDepth 20000 in
theorem m_2_31 : (Jvm.Cond.fieldLink "DrawerGloves" (14 : Nat) "DrawerGloves" "rows" "LDrawerGloves$Rows;") ∈ gtbl := mg (mm_2 (List.mem_of_getElem? (i := 31) rfl)) rfl
set_option maxRecDepth 20000 in
theorem m_2_32 : (Jvm.Cond.fieldLink "DrawerGloves" (18 : Nat) "DrawerGloves" "texts" "LDrawerGloves$Rows;") ∈ gtbl := mg (mm_2 (List.mem_of_getElem? (i := 32) rfl)) rfl
set_option maxRecDepth 20000 in
theorem m_2_33 : (Jvm.Cond.fieldLink "DrawerGloves" (24 : Nat) "DrawerGloves" "reading" "LDrawerGloves$Reading;") ∈ gtbl := mg (mm_2 (List.mem_of_getElem? (i := 33) rfl)) rfl
set_option maxRecDepth 20000 in
theorem m_2_34 : (Jvm.Cond.fieldLink "DrawerGloves" (31 : Nat) "DrawerGloves" "chest" "LDrawerGloves$Drawer;") ∈ gtbl := mg (mm_2 (List.mem_of_getElem? (i := 34) rfl)) rfl
set_option maxRecDepth 20000 in
theorem m_2_35 : (Jvm.Cond.fieldLink "DrawerGloves" (37 : Nat) "DrawerGloves" "kept" "[LDrawerGloves$Deeds;") ∈ gtbl := mg (mm_2 (List.mem_of_getElem? (i := 35) rfl)) rfl
set_option maxRecDepth 20000 in
theorem m_2_36 : (Jvm.Cond.fieldLink "DrawerGloves" (49 : Nat) "DrawerGloves" "makings" "LDrawerGloves$Makings;") ∈ gtbl := mg (mm_2 (List.mem_of_getElem? (i := 36) rfl)) rfl
set_option maxRecDepth 20000 in
theorem m_2_37 : (Jvm.Cond.fieldLink "DrawerGloves" (56 : Nat) "DrawerGloves" "calendar" "LDrawerGloves$Calendar;") ∈ gtbl := mg (mm_2 (List.mem_of_getElem? (i := 37) rfl)) rfl
set_option maxRecDepth 20000 in
theorem m_2_38 : (Jvm.Cond.fieldLink "DrawerGloves" (63 : Nat) "DrawerGloves" "guess" "LDrawerGloves$Guess;") ∈ gtbl := mg (mm_2 (List.mem_of_getElem? (i := 38) rfl)) rfl
set_option maxRecDepth 20000 in
theorem m_2_39 : (Jvm.Cond.fieldLink "DrawerGloves" (70 : Nat) "DrawerGloves" "rivals" "LDrawerGloves$Rivals;") ∈ gtbl := mg (mm_2 (List.mem_of_getElem? (i := 39) rfl)) rfl
set_option maxRecDepth 20000 in
theorem m_2_40 : (Jvm.Cond.fieldLink "DrawerGloves" (77 : Nat) "DrawerGloves" "chances" "LDrawerGloves$Chances;") ∈ gtbl := mg (mm_2 (List.mem_of_getElem? (i := 40) rfl)) rfl
set_option maxRecDepth 20000 in
theorem m_2_41 : (Jvm.Cond.fieldLink "DrawerGloves" (81 : Nat) "DrawerGloves" "found" "[I") ∈ gtbl := mg (mm_2 (List.mem_of_getElem? (i := 41) rfl)) rfl
set_option maxRecDepth 20000 in
theorem m_2_42 : (Jvm.Cond.fieldLink "DrawerGloves" (85 : Nat) "DrawerGloves" "lastFound" "I") ∈ gtbl := mg (mm_2 (List.mem_of_getElem? (i := 42) rfl)) rfl
set_option maxRecDepth 20000 in
theorem m_2_43 : (Jvm.Cond.fieldLink "DrawerGloves" (88 : Nat) "DrawerGloves" "lastAsked" "I") ∈ gtbl := mg (mm_2 (List.mem_of_getElem? (i := 43) rfl)) rfl
set_option maxRecDepth 20000 in
theorem m_2_44 : (Jvm.Cond.laysFinal "DrawerGloves" "DrawerGloves" "rows" "LDrawerGloves$Rows;") ∈ gtbl := mg (mm_2 (List.mem_of_getElem? (i := 44) rfl)) rfl
set_option maxRecDepth 20000 in
theorem m_2_46 : (Jvm.Cond.laysFinal "DrawerGloves" "DrawerGloves" "texts" "LDrawerGloves$Rows;") ∈ gtbl := mg (mm_2 (List.mem_of_getElem? (i := 46) rfl)) rfl
set_option maxRecDepth 20000 in
theorem m_2_48 : (Jvm.Cond.laysFinal "DrawerGloves" "DrawerGloves" "reading" "LDrawerGloves$Reading;") ∈ gtbl := mg (mm_2 (List.mem_of_getElem? (i := 48) rfl)) rfl
set_option maxRecDepth 20000 in
theorem m_2_50 : (Jvm.Cond.laysFinal "DrawerGloves" "DrawerGloves" "chest" "LDrawerGloves$Drawer;") ∈ gtbl := mg (mm_2 (List.mem_of_getElem? (i := 50) rfl)) rfl
set_option maxRecDepth 20000 in
theorem m_2_52 : (Jvm.Cond.laysFinal "DrawerGloves" "DrawerGloves" "kept" "[LDrawerGloves$Deeds;") ∈ gtbl := mg (mm_2 (List.mem_of_getElem? (i := 52) rfl)) rfl
set_option maxRecDepth 20000 in
theorem m_2_54 : (Jvm.Cond.laysFinal "DrawerGloves" "DrawerGloves" "makings" "LDrawerGloves$Makings;") ∈ gtbl := mg (mm_2 (List.mem_of_getElem? (i := 54) rfl)) rfl
set_option maxRecDepth 20000 in
theorem m_2_56 : (Jvm.Cond.laysFinal "DrawerGloves" "DrawerGloves" "calendar" "LDrawerGloves$Calendar;") ∈ gtbl := mg (mm_2 (List.mem_of_getElem? (i := 56) rfl)) rfl
set_option maxRecDepth 20000 in
theorem m_2_58 : (Jvm.Cond.laysFinal "DrawerGloves" "DrawerGloves" "guess" "LDrawerGloves$Guess;") ∈ gtbl := mg (mm_2 (List.mem_of_getElem? (i := 58) rfl)) rfl
set_option maxRecDepth 20000 in
theorem m_2_60 : (Jvm.Cond.laysFinal "DrawerGloves" "DrawerGloves" "rivals" "LDrawerGloves$Rivals;") ∈ gtbl := mg (mm_2 (List.mem_of_getElem? (i := 60) rfl)) rfl
set_option maxRecDepth 20000 in
theorem m_2_62 : (Jvm.Cond.laysFinal "DrawerGloves" "DrawerGloves" "chances" "LDrawerGloves$Chances;") ∈ gtbl := mg (mm_2 (List.mem_of_getElem? (i := 62) rfl)) rfl
set_option maxRecDepth 20000 in
theorem m_2_64 : (Jvm.Cond.laysFinal "DrawerGloves" "DrawerGloves" "found" "[I") ∈ gtbl := mg (mm_2 (List.mem_of_getElem? (i := 64) rfl)) rfl
set_option maxRecDepth 20000 in
theorem m_2_66 : (Jvm.Cond.lays "DrawerGloves" "DrawerGloves" "lastFound" "I") ∈ gtbl := mg (mm_2 (List.mem_of_getElem? (i := 66) rfl)) rfl
set_option maxRecDepth 20000 in
theorem m_2_68 : (Jvm.Cond.lays "DrawerGloves" "DrawerGloves" "lastAsked" "I") ∈ gtbl := mg (mm_2 (List.mem_of_getElem? (i := 68) rfl)) rfl
set_option maxRecDepth 20000 in
theorem m_2_71 : (Jvm.Cond.methodLink "DrawerGlovesLaw" (13 : Nat) ({ cls := "DrawerGloves", name := "row", desc := "(II)I" } : Jvm.MethodName)) ∈ gtbl := mg (mm_2 (List.mem_of_getElem? (i := 71) rfl)) rfl
set_option maxRecDepth 20000 in
theorem m_2_72 : (Jvm.Cond.instanceMethod ({ cls := "DrawerGloves", name := "row", desc := "(II)I" } : Jvm.MethodName)) ∈ gtbl := mg (mm_2 (List.mem_of_getElem? (i := 72) rfl)) rfl
set_option maxRecDepth 20000 in
theorem m_2_73 : (Jvm.Cond.selects "DrawerGloves" ({ cls := "DrawerGloves", name := "row", desc := "(II)I" } : Jvm.MethodName) ({ cls := "DrawerGloves", name := "row", desc := "(II)I" } : Jvm.MethodName)) ∈ gtbl := mg (mm_2 (List.mem_of_getElem? (i := 73) rfl)) rfl
set_option maxRecDepth 20000 in
theorem m_2_74 : (Jvm.Cond.code ({ cls := "DrawerGloves", name := "row", desc := "(II)I" } : Jvm.MethodName) prog_1_method_2_code (3 : Nat) (Option.some Jvm.ClassFile.FieldType.int)) ∈ gtbl := mg (mm_2 (List.mem_of_getElem? (i := 74) rfl)) rfl
set_option maxRecDepth 20000 in
theorem m_2_75 : (Jvm.Cond.methodLink "DrawerGloves" (91 : Nat) ({ cls := "DrawerGloves$Rows", name := "isNumber", desc := "(I)Z" } : Jvm.MethodName)) ∈ gtbl := mg (mm_2 (List.mem_of_getElem? (i := 75) rfl)) rfl
set_option maxRecDepth 20000 in
theorem m_2_76 : (Jvm.Cond.instanceMethod ({ cls := "DrawerGloves$Rows", name := "isNumber", desc := "(I)Z" } : Jvm.MethodName)) ∈ gtbl := mg (mm_2 (List.mem_of_getElem? (i := 76) rfl)) rfl
set_option maxRecDepth 20000 in
theorem m_2_77 : (Jvm.Cond.selects "DrawerGloves$Rows" ({ cls := "DrawerGloves$Rows", name := "isNumber", desc := "(I)Z" } : Jvm.MethodName) ({ cls := "DrawerGloves$Rows", name := "isNumber", desc := "(I)Z" } : Jvm.MethodName)) ∈ gtbl := mg (mm_2 (List.mem_of_getElem? (i := 77) rfl)) rfl
set_option maxRecDepth 20000 in
theorem m_2_78 : (Jvm.Cond.code ({ cls := "DrawerGloves$Rows", name := "isNumber", desc := "(I)Z" } : Jvm.MethodName) prog_11_method_2_code (2 : Nat) (Option.some Jvm.ClassFile.FieldType.boolean)) ∈ gtbl := mg (mm_2 (List.mem_of_getElem? (i := 78) rfl)) rfl
set_option maxRecDepth 20000 in
theorem m_2_79 : (Jvm.Cond.methodLink "DrawerGloves" (95 : Nat) ({ cls := "DrawerGloves", name := "finds", desc := "(I)I" } : Jvm.MethodName)) ∈ gtbl := mg (mm_2 (List.mem_of_getElem? (i := 79) rfl)) rfl
set_option maxRecDepth 20000 in
theorem m_2_81 : (Jvm.Cond.instanceMethod ({ cls := "DrawerGloves", name := "finds", desc := "(I)I" } : Jvm.MethodName)) ∈ gtbl := mg (mm_2 (List.mem_of_getElem? (i := 81) rfl)) rfl
set_option maxRecDepth 20000 in
theorem m_2_82 : (Jvm.Cond.code ({ cls := "DrawerGloves", name := "finds", desc := "(I)I" } : Jvm.MethodName) prog_1_method_44_code (2 : Nat) (Option.some Jvm.ClassFile.FieldType.int)) ∈ gtbl := mg (mm_2 (List.mem_of_getElem? (i := 82) rfl)) rfl
set_option maxRecDepth 20000 in
theorem m_2_83 : (Jvm.Cond.methodLink "DrawerGloves" (99 : Nat) ({ cls := "DrawerGloves$Rows", name := "begin", desc := "(II)V" } : Jvm.MethodName)) ∈ gtbl := mg (mm_2 (List.mem_of_getElem? (i := 83) rfl)) rfl
set_option maxRecDepth 20000 in
theorem m_2_84 : (Jvm.Cond.instanceMethod ({ cls := "DrawerGloves$Rows", name := "begin", desc := "(II)V" } : Jvm.MethodName)) ∈ gtbl := mg (mm_2 (List.mem_of_getElem? (i := 84) rfl)) rfl
set_option maxRecDepth 20000 in
theorem m_2_85 : (Jvm.Cond.selects "DrawerGloves$Rows" ({ cls := "DrawerGloves$Rows", name := "begin", desc := "(II)V" } : Jvm.MethodName) ({ cls := "DrawerGloves$Rows", name := "begin", desc := "(II)V" } : Jvm.MethodName)) ∈ gtbl := mg (mm_2 (List.mem_of_getElem? (i := 85) rfl)) rfl
set_option maxRecDepth 20000 in
theorem m_2_86 : (Jvm.Cond.code ({ cls := "DrawerGloves$Rows", name := "begin", desc := "(II)V" } : Jvm.MethodName) prog_11_method_7_code (4 : Nat) (Option.none : Option Jvm.ClassFile.FieldType)) ∈ gtbl := mg (mm_2 (List.mem_of_getElem? (i := 86) rfl)) rfl
set_option maxRecDepth 20000 in
theorem m_2_87 : (Jvm.Cond.methodLink "DrawerGloves$Rows" (33 : Nat) ({ cls := "DrawerGloves$Rows", name := "isNumber", desc := "(I)Z" } : Jvm.MethodName)) ∈ gtbl := mg (mm_2 (List.mem_of_getElem? (i := 87) rfl)) rfl
set_option maxRecDepth 20000 in
theorem m_2_88 : (Jvm.Cond.methodLink "DrawerGlovesLaw" (18 : Nat) ({ cls := "DrawerGloves", name := "lay", desc := "(III)I" } : Jvm.MethodName)) ∈ gtbl := mg (mm_2 (List.mem_of_getElem? (i := 88) rfl)) rfl
set_option maxRecDepth 20000 in
theorem m_2_89 : (Jvm.Cond.instanceMethod ({ cls := "DrawerGloves", name := "lay", desc := "(III)I" } : Jvm.MethodName)) ∈ gtbl := mg (mm_2 (List.mem_of_getElem? (i := 89) rfl)) rfl
set_option maxRecDepth 20000 in
theorem m_2_90 : (Jvm.Cond.selects "DrawerGloves" ({ cls := "DrawerGloves", name := "lay", desc := "(III)I" } : Jvm.MethodName) ({ cls := "DrawerGloves", name := "lay", desc := "(III)I" } : Jvm.MethodName)) ∈ gtbl := mg (mm_2 (List.mem_of_getElem? (i := 90) rfl)) rfl
set_option maxRecDepth 20000 in
theorem m_2_91 : (Jvm.Cond.code ({ cls := "DrawerGloves", name := "lay", desc := "(III)I" } : Jvm.MethodName) prog_1_method_3_code (6 : Nat) (Option.some Jvm.ClassFile.FieldType.int)) ∈ gtbl := mg (mm_2 (List.mem_of_getElem? (i := 91) rfl)) rfl
set_option maxRecDepth 20000 in
theorem m_2_92 : (Jvm.Cond.methodLink "DrawerGloves" (103 : Nat) ({ cls := "DrawerGloves", name := "refusedPlace", desc := "(II)I" } : Jvm.MethodName)) ∈ gtbl := mg (mm_2 (List.mem_of_getElem? (i := 92) rfl)) rfl
set_option maxRecDepth 20000 in
theorem m_2_94 : (Jvm.Cond.instanceMethod ({ cls := "DrawerGloves", name := "refusedPlace", desc := "(II)I" } : Jvm.MethodName)) ∈ gtbl := mg (mm_2 (List.mem_of_getElem? (i := 94) rfl)) rfl
set_option maxRecDepth 20000 in
theorem m_2_95 : (Jvm.Cond.code ({ cls := "DrawerGloves", name := "refusedPlace", desc := "(II)I" } : Jvm.MethodName) prog_1_method_47_code (4 : Nat) (Option.some Jvm.ClassFile.FieldType.int)) ∈ gtbl := mg (mm_2 (List.mem_of_getElem? (i := 95) rfl)) rfl
set_option maxRecDepth 20000 in
theorem m_2_96 : (Jvm.Cond.methodLink "DrawerGloves" (116 : Nat) ({ cls := "DrawerGloves", name := "refusedRow", desc := "(I)I" } : Jvm.MethodName)) ∈ gtbl := mg (mm_2 (List.mem_of_getElem? (i := 96) rfl)) rfl
set_option maxRecDepth 20000 in
theorem m_2_98 : (Jvm.Cond.instanceMethod ({ cls := "DrawerGloves", name := "refusedRow", desc := "(I)I" } : Jvm.MethodName)) ∈ gtbl := mg (mm_2 (List.mem_of_getElem? (i := 98) rfl)) rfl
set_option maxRecDepth 20000 in
theorem m_2_99 : (Jvm.Cond.code ({ cls := "DrawerGloves", name := "refusedRow", desc := "(I)I" } : Jvm.MethodName) prog_1_method_46_code (2 : Nat) (Option.some Jvm.ClassFile.FieldType.int)) ∈ gtbl := mg (mm_2 (List.mem_of_getElem? (i := 99) rfl)) rfl
set_option maxRecDepth 20000 in
theorem m_2_100 : (Jvm.Cond.methodLink "DrawerGloves" (123 : Nat) ({ cls := "DrawerGloves$Rows", name := "isThere", desc := "(I)Z" } : Jvm.MethodName)) ∈ gtbl := mg (mm_2 (List.mem_of_getElem? (i := 100) rfl)) rfl
set_option maxRecDepth 20000 in
theorem m_2_101 : (Jvm.Cond.instanceMethod ({ cls := "DrawerGloves$Rows", name := "isThere", desc := "(I)Z" } : Jvm.MethodName)) ∈ gtbl := mg (mm_2 (List.mem_of_getElem? (i := 101) rfl)) rfl
set_option maxRecDepth 20000 in
theorem m_2_102 : (Jvm.Cond.selects "DrawerGloves$Rows" ({ cls := "DrawerGloves$Rows", name := "isThere", desc := "(I)Z" } : Jvm.MethodName) ({ cls := "DrawerGloves$Rows", name := "isThere", desc := "(I)Z" } : Jvm.MethodName)) ∈ gtbl := mg (mm_2 (List.mem_of_getElem? (i := 102) rfl)) rfl
set_option maxRecDepth 20000 in
theorem m_2_103 : (Jvm.Cond.code ({ cls := "DrawerGloves$Rows", name := "isThere", desc := "(I)Z" } : Jvm.MethodName) prog_11_method_4_code (2 : Nat) (Option.some Jvm.ClassFile.FieldType.boolean)) ∈ gtbl := mg (mm_2 (List.mem_of_getElem? (i := 103) rfl)) rfl
set_option maxRecDepth 20000 in
theorem m_2_104 : (Jvm.Cond.methodLink "DrawerGloves$Rows" (37 : Nat) ({ cls := "DrawerGloves$Rows", name := "sizeOf", desc := "(I)I" } : Jvm.MethodName)) ∈ gtbl := mg (mm_2 (List.mem_of_getElem? (i := 104) rfl)) rfl
set_option maxRecDepth 20000 in
theorem m_2_105 : (Jvm.Cond.instanceMethod ({ cls := "DrawerGloves$Rows", name := "sizeOf", desc := "(I)I" } : Jvm.MethodName)) ∈ gtbl := mg (mm_2 (List.mem_of_getElem? (i := 105) rfl)) rfl
set_option maxRecDepth 20000 in
theorem m_2_106 : (Jvm.Cond.selects "DrawerGloves$Rows" ({ cls := "DrawerGloves$Rows", name := "sizeOf", desc := "(I)I" } : Jvm.MethodName) ({ cls := "DrawerGloves$Rows", name := "sizeOf", desc := "(I)I" } : Jvm.MethodName)) ∈ gtbl := mg (mm_2 (List.mem_of_getElem? (i := 106) rfl)) rfl
set_option maxRecDepth 20000 in
theorem m_2_107 : (Jvm.Cond.code ({ cls := "DrawerGloves$Rows", name := "sizeOf", desc := "(I)I" } : Jvm.MethodName) prog_11_method_3_code (2 : Nat) (Option.some Jvm.ClassFile.FieldType.int)) ∈ gtbl := mg (mm_2 (List.mem_of_getElem? (i := 107) rfl)) rfl
set_option maxRecDepth 20000 in
theorem m_2_108 : (Jvm.Cond.methodLink "DrawerGloves" (144 : Nat) ({ cls := "DrawerGloves$Rows", name := "holds", desc := "(II)Z" } : Jvm.MethodName)) ∈ gtbl := mg (mm_2 (List.mem_of_getElem? (i := 108) rfl)) rfl
set_option maxRecDepth 20000 in
theorem m_2_109 : (Jvm.Cond.instanceMethod ({ cls := "DrawerGloves$Rows", name := "holds", desc := "(II)Z" } : Jvm.MethodName)) ∈ gtbl := mg (mm_2 (List.mem_of_getElem? (i := 109) rfl)) rfl
set_option maxRecDepth 20000 in
theorem m_2_110 : (Jvm.Cond.selects "DrawerGloves$Rows" ({ cls := "DrawerGloves$Rows", name := "holds", desc := "(II)Z" } : Jvm.MethodName) ({ cls := "DrawerGloves$Rows", name := "holds", desc := "(II)Z" } : Jvm.MethodName)) ∈ gtbl := mg (mm_2 (List.mem_of_getElem? (i := 110) rfl)) rfl
set_option maxRecDepth 20000 in
theorem m_2_111 : (Jvm.Cond.code ({ cls := "DrawerGloves$Rows", name := "holds", desc := "(II)Z" } : Jvm.MethodName) prog_11_method_5_code (3 : Nat) (Option.some Jvm.ClassFile.FieldType.boolean)) ∈ gtbl := mg (mm_2 (List.mem_of_getElem? (i := 111) rfl)) rfl
set_option maxRecDepth 20000 in
theorem m_2_112 : (Jvm.Cond.methodLink "DrawerGloves" (107 : Nat) ({ cls := "DrawerGloves$Rows", name := "read", desc := "(II)I" } : Jvm.MethodName)) ∈ gtbl := mg (mm_2 (List.mem_of_getElem? (i := 112) rfl)) rfl
set_option maxRecDepth 20000 in
theorem m_2_113 : (Jvm.Cond.instanceMethod ({ cls := "DrawerGloves$Rows", name := "read", desc := "(II)I" } : Jvm.MethodName)) ∈ gtbl := mg (mm_2 (List.mem_of_getElem? (i := 113) rfl)) rfl
set_option maxRecDepth 20000 in
theorem m_2_114 : (Jvm.Cond.selects "DrawerGloves$Rows" ({ cls := "DrawerGloves$Rows", name := "read", desc := "(II)I" } : Jvm.MethodName) ({ cls := "DrawerGloves$Rows", name := "read", desc := "(II)I" } : Jvm.MethodName)) ∈ gtbl := mg (mm_2 (List.mem_of_getElem? (i := 114) rfl)) rfl
set_option maxRecDepth 20000 in
theorem m_2_115 : (Jvm.Cond.code ({ cls := "DrawerGloves$Rows", name := "read", desc := "(II)I" } : Jvm.MethodName) prog_11_method_9_code (3 : Nat) (Option.some Jvm.ClassFile.FieldType.int)) ∈ gtbl := mg (mm_2 (List.mem_of_getElem? (i := 115) rfl)) rfl
set_option maxRecDepth 20000 in
theorem m_2_116 : (Jvm.Cond.methodLink "DrawerGloves$Rows" (41 : Nat) ({ cls := "DrawerGloves$Rows", name := "holds", desc := "(II)Z" } : Jvm.MethodName)) ∈ gtbl := mg (mm_2 (List.mem_of_getElem? (i := 116) rfl)) rfl
set_option maxRecDepth 20000 in
theorem m_2_117 : (Jvm.Cond.methodLink "DrawerGloves" (110 : Nat) ({ cls := "DrawerGloves$Rows", name := "write", desc := "(III)V" } : Jvm.MethodName)) ∈ gtbl := mg (mm_2 (List.mem_of_getElem? (i := 117) rfl)) rfl
set_option maxRecDepth 20000 in
theorem m_2_118 : (Jvm.Cond.instanceMethod ({ cls := "DrawerGloves$Rows", name := "write", desc := "(III)V" } : Jvm.MethodName)) ∈ gtbl := mg (mm_2 (List.mem_of_getElem? (i := 118) rfl)) rfl
set_option maxRecDepth 20000 in
theorem m_2_119 : (Jvm.Cond.selects "DrawerGloves$Rows" ({ cls := "DrawerGloves$Rows", name := "write", desc := "(III)V" } : Jvm.MethodName) ({ cls := "DrawerGloves$Rows", name := "write", desc := "(III)V" } : Jvm.MethodName)) ∈ gtbl := mg (mm_2 (List.mem_of_getElem? (i := 119) rfl)) rfl
set_option maxRecDepth 20000 in
theorem m_2_120 : (Jvm.Cond.code ({ cls := "DrawerGloves$Rows", name := "write", desc := "(III)V" } : Jvm.MethodName) prog_11_method_10_code (4 : Nat) (Option.none : Option Jvm.ClassFile.FieldType)) ∈ gtbl := mg (mm_2 (List.mem_of_getElem? (i := 120) rfl)) rfl
set_option maxRecDepth 20000 in
theorem m_2_121 : (Jvm.Cond.methodLink "DrawerGloves" (113 : Nat) ({ cls := "DrawerGloves", name := "tells", desc := "(I)I" } : Jvm.MethodName)) ∈ gtbl := mg (mm_2 (List.mem_of_getElem? (i := 121) rfl)) rfl
set_option maxRecDepth 20000 in
theorem m_2_123 : (Jvm.Cond.instanceMethod ({ cls := "DrawerGloves", name := "tells", desc := "(I)I" } : Jvm.MethodName)) ∈ gtbl := mg (mm_2 (List.mem_of_getElem? (i := 123) rfl)) rfl
set_option maxRecDepth 20000 in
theorem m_2_124 : (Jvm.Cond.code ({ cls := "DrawerGloves", name := "tells", desc := "(I)I" } : Jvm.MethodName) prog_1_method_45_code (2 : Nat) (Option.some Jvm.ClassFile.FieldType.int)) ∈ gtbl := mg (mm_2 (List.mem_of_getElem? (i := 124) rfl)) rfl
set_option maxRecDepth 20000 in
theorem m_2_125 : (Jvm.Cond.methodLink "DrawerGlovesLaw" (23 : Nat) ({ cls := "DrawerGloves", name := "at", desc := "(II)I" } : Jvm.MethodName)) ∈ gtbl := mg (mm_2 (List.mem_of_getElem? (i := 125) rfl)) rfl
set_option maxRecDepth 20000 in
theorem m_2_126 : (Jvm.Cond.instanceMethod ({ cls := "DrawerGloves", name := "at", desc := "(II)I" } : Jvm.MethodName)) ∈ gtbl := mg (mm_2 (List.mem_of_getElem? (i := 126) rfl)) rfl
set_option maxRecDepth 20000 in
theorem m_2_127 : (Jvm.Cond.selects "DrawerGloves" ({ cls := "DrawerGloves", name := "at", desc := "(II)I" } : Jvm.MethodName) ({ cls := "DrawerGloves", name := "at", desc := "(II)I" } : Jvm.MethodName)) ∈ gtbl := mg (mm_2 (List.mem_of_getElem? (i := 127) rfl)) rfl
set_option maxRecDepth 20000 in
theorem m_2_128 : (Jvm.Cond.code ({ cls := "DrawerGloves", name := "at", desc := "(II)I" } : Jvm.MethodName) prog_1_method_4_code (4 : Nat) (Option.some Jvm.ClassFile.FieldType.int)) ∈ gtbl := mg (mm_2 (List.mem_of_getElem? (i := 128) rfl)) rfl
set_option maxRecDepth 20000 in
theorem m_2_129 : (Jvm.Cond.methodLink "DrawerGlovesLaw" (27 : Nat) ({ cls := "DrawerGloves", name := "tear", desc := "(I)I" } : Jvm.MethodName)) ∈ gtbl := mg (mm_2 (List.mem_of_getElem? (i := 129) rfl)) rfl
set_option maxRecDepth 20000 in
theorem m_2_130 : (Jvm.Cond.instanceMethod ({ cls := "DrawerGloves", name := "tear", desc := "(I)I" } : Jvm.MethodName)) ∈ gtbl := mg (mm_2 (List.mem_of_getElem? (i := 130) rfl)) rfl
set_option maxRecDepth 20000 in
theorem m_2_131 : (Jvm.Cond.selects "DrawerGloves" ({ cls := "DrawerGloves", name := "tear", desc := "(I)I" } : Jvm.MethodName) ({ cls := "DrawerGloves", name := "tear", desc := "(I)I" } : Jvm.MethodName)) ∈ gtbl := mg (mm_2 (List.mem_of_getElem? (i := 131) rfl)) rfl
set_option maxRecDepth 20000 in
theorem m_2_132 : (Jvm.Cond.code ({ cls := "DrawerGloves", name := "tear", desc := "(I)I" } : Jvm.MethodName) prog_1_method_5_code (3 : Nat) (Option.some Jvm.ClassFile.FieldType.int)) ∈ gtbl := mg (mm_2 (List.mem_of_getElem? (i := 132) rfl)) rfl
set_option maxRecDepth 20000 in
theorem m_2_133 : (Jvm.Cond.methodLink "DrawerGloves" (119 : Nat) ({ cls := "DrawerGloves$Rows", name := "drop", desc := "(I)V" } : Jvm.MethodName)) ∈ gtbl := mg (mm_2 (List.mem_of_getElem? (i := 133) rfl)) rfl
set_option maxRecDepth 20000 in
theorem m_2_134 : (Jvm.Cond.instanceMethod ({ cls := "DrawerGloves$Rows", name := "drop", desc := "(I)V" } : Jvm.MethodName)) ∈ gtbl := mg (mm_2 (List.mem_of_getElem? (i := 134) rfl)) rfl
set_option maxRecDepth 20000 in
theorem m_2_135 : (Jvm.Cond.selects "DrawerGloves$Rows" ({ cls := "DrawerGloves$Rows", name := "drop", desc := "(I)V" } : Jvm.MethodName) ({ cls := "DrawerGloves$Rows", name := "drop", desc := "(I)V" } : Jvm.MethodName)) ∈ gtbl := mg (mm_2 (List.mem_of_getElem? (i := 135) rfl)) rfl
set_option maxRecDepth 20000 in
theorem m_2_136 : (Jvm.Cond.code ({ cls := "DrawerGloves$Rows", name := "drop", desc := "(I)V" } : Jvm.MethodName) prog_11_method_8_code (2 : Nat) (Option.none : Option Jvm.ClassFile.FieldType)) ∈ gtbl := mg (mm_2 (List.mem_of_getElem? (i := 136) rfl)) rfl
set_option maxRecDepth 20000 in
theorem m_2_137 : (Jvm.Cond.methodLink "DrawerGlovesLaw" (32 : Nat) ({ cls := "DrawerGloves", name := "copy", desc := "(IIIII)I" } : Jvm.MethodName)) ∈ gtbl := mg (mm_2 (List.mem_of_getElem? (i := 137) rfl)) rfl
set_option maxRecDepth 20000 in
theorem m_2_138 : (Jvm.Cond.instanceMethod ({ cls := "DrawerGloves", name := "copy", desc := "(IIIII)I" } : Jvm.MethodName)) ∈ gtbl := mg (mm_2 (List.mem_of_getElem? (i := 138) rfl)) rfl
set_option maxRecDepth 20000 in
theorem m_2_139 : (Jvm.Cond.selects "DrawerGloves" ({ cls := "DrawerGloves", name := "copy", desc := "(IIIII)I" } : Jvm.MethodName) ({ cls := "DrawerGloves", name := "copy", desc := "(IIIII)I" } : Jvm.MethodName)) ∈ gtbl := mg (mm_2 (List.mem_of_getElem? (i := 139) rfl)) rfl
set_option maxRecDepth 20000 in
theorem m_2_140 : (Jvm.Cond.code ({ cls := "DrawerGloves", name := "copy", desc := "(IIIII)I" } : Jvm.MethodName) prog_1_method_6_code (6 : Nat) (Option.some Jvm.ClassFile.FieldType.int)) ∈ gtbl := mg (mm_2 (List.mem_of_getElem? (i := 140) rfl)) rfl
set_option maxRecDepth 20000 in
theorem m_2_141 : (Jvm.Cond.methodLink "DrawerGloves" (126 : Nat) ({ cls := "DrawerGloves$Rows", name := "reaches", desc := "(III)Z" } : Jvm.MethodName)) ∈ gtbl := mg (mm_2 (List.mem_of_getElem? (i := 141) rfl)) rfl
set_option maxRecDepth 20000 in
theorem m_2_142 : (Jvm.Cond.instanceMethod ({ cls := "DrawerGloves$Rows", name := "reaches", desc := "(III)Z" } : Jvm.MethodName)) ∈ gtbl := mg (mm_2 (List.mem_of_getElem? (i := 142) rfl)) rfl
set_option maxRecDepth 20000 in
theorem m_2_143 : (Jvm.Cond.selects "DrawerGloves$Rows" ({ cls := "DrawerGloves$Rows", name := "reaches", desc := "(III)Z" } : Jvm.MethodName) ({ cls := "DrawerGloves$Rows", name := "reaches", desc := "(III)Z" } : Jvm.MethodName)) ∈ gtbl := mg (mm_2 (List.mem_of_getElem? (i := 143) rfl)) rfl
set_option maxRecDepth 20000 in
theorem m_2_144 : (Jvm.Cond.code ({ cls := "DrawerGloves$Rows", name := "reaches", desc := "(III)Z" } : Jvm.MethodName) prog_11_method_6_code (5 : Nat) (Option.some Jvm.ClassFile.FieldType.boolean)) ∈ gtbl := mg (mm_2 (List.mem_of_getElem? (i := 144) rfl)) rfl
set_option maxRecDepth 20000 in
theorem m_2_145 : (Jvm.Cond.methodLink "DrawerGloves" (130 : Nat) ({ cls := "DrawerGloves$Rows", name := "move", desc := "(IIIII)V" } : Jvm.MethodName)) ∈ gtbl := mg (mm_2 (List.mem_of_getElem? (i := 145) rfl)) rfl
set_option maxRecDepth 20000 in
theorem m_2_146 : (Jvm.Cond.instanceMethod ({ cls := "DrawerGloves$Rows", name := "move", desc := "(IIIII)V" } : Jvm.MethodName)) ∈ gtbl := mg (mm_2 (List.mem_of_getElem? (i := 146) rfl)) rfl
set_option maxRecDepth 20000 in
theorem m_2_147 : (Jvm.Cond.selects "DrawerGloves$Rows" ({ cls := "DrawerGloves$Rows", name := "move", desc := "(IIIII)V" } : Jvm.MethodName) ({ cls := "DrawerGloves$Rows", name := "move", desc := "(IIIII)V" } : Jvm.MethodName)) ∈ gtbl := mg (mm_2 (List.mem_of_getElem? (i := 147) rfl)) rfl
set_option maxRecDepth 20000 in
theorem m_2_148 : (Jvm.Cond.code ({ cls := "DrawerGloves$Rows", name := "move", desc := "(IIIII)V" } : Jvm.MethodName) prog_11_method_11_code (6 : Nat) (Option.none : Option Jvm.ClassFile.FieldType)) ∈ gtbl := mg (mm_2 (List.mem_of_getElem? (i := 148) rfl)) rfl
set_option maxRecDepth 20000 in
theorem m_2_149 : (Jvm.Cond.methodLink "DrawerGloves$Rows" (45 : Nat) ({ cls := "DrawerGloves$Rows", name := "reaches", desc := "(III)Z" } : Jvm.MethodName)) ∈ gtbl := mg (mm_2 (List.mem_of_getElem? (i := 149) rfl)) rfl
set_option maxRecDepth 20000 in
theorem m_2_150 : (Jvm.Cond.methodLink "DrawerGloves$Rows" (49 : Nat) ({ cls := "java/lang/System", name := "arraycopy", desc := "(Ljava/lang/Object;ILjava/lang/Object;II)V" } : Jvm.MethodName)) ∈ gtbl := mg (mm_2 (List.mem_of_getElem? (i := 150) rfl)) rfl
set_option maxRecDepth 20000 in
theorem m_2_151 : (Jvm.Cond.static ({ cls := "java/lang/System", name := "arraycopy", desc := "(Ljava/lang/Object;ILjava/lang/Object;II)V" } : Jvm.MethodName)) ∈ gtbl := mg (mm_2 (List.mem_of_getElem? (i := 151) rfl)) rfl
set_option maxRecDepth 20000 in
theorem m_2_152 : (Jvm.Cond.native ({ cls := "java/lang/System", name := "arraycopy", desc := "(Ljava/lang/Object;ILjava/lang/Object;II)V" } : Jvm.MethodName)) ∈ gtbl := mg (mm_2 (List.mem_of_getElem? (i := 152) rfl)) rfl
set_option maxRecDepth 20000 in
theorem m_2_153 : (Jvm.Cond.methodLink "DrawerGlovesLaw" (37 : Nat) ({ cls := "DrawerGloves", name := "mean", desc := "(I)I" } : Jvm.MethodName)) ∈ gtbl := mg (mm_2 (List.mem_of_getElem? (i := 153) rfl)) rfl
set_option maxRecDepth 20000 in
theorem m_2_154 : (Jvm.Cond.instanceMethod ({ cls := "DrawerGloves", name := "mean", desc := "(I)I" } : Jvm.MethodName)) ∈ gtbl := mg (mm_2 (List.mem_of_getElem? (i := 154) rfl)) rfl
set_option maxRecDepth 20000 in
theorem m_2_155 : (Jvm.Cond.selects "DrawerGloves" ({ cls := "DrawerGloves", name := "mean", desc := "(I)I" } : Jvm.MethodName) ({ cls := "DrawerGloves", name := "mean", desc := "(I)I" } : Jvm.MethodName)) ∈ gtbl := mg (mm_2 (List.mem_of_getElem? (i := 155) rfl)) rfl
set_option maxRecDepth 20000 in
theorem m_2_156 : (Jvm.Cond.code ({ cls := "DrawerGloves", name := "mean", desc := "(I)I" } : Jvm.MethodName) prog_1_method_7_code (4 : Nat) (Option.some Jvm.ClassFile.FieldType.int)) ∈ gtbl := mg (mm_2 (List.mem_of_getElem? (i := 156) rfl)) rfl
set_option maxRecDepth 20000 in
theorem m_2_157 : (Jvm.Cond.methodLink "DrawerGloves" (134 : Nat) ({ cls := "DrawerGloves$Rows", name := "sizeOf", desc := "(I)I" } : Jvm.MethodName)) ∈ gtbl := mg (mm_2 (List.mem_of_getElem? (i := 157) rfl)) rfl
set_option maxRecDepth 20000 in
theorem m_2_158 : (Jvm.Cond.methodLink "DrawerGloves" (137 : Nat) ({ cls := "DrawerGloves$Rows", name := "total", desc := "(I)J" } : Jvm.MethodName)) ∈ gtbl := mg (mm_2 (List.mem_of_getElem? (i := 158) rfl)) rfl
set_option maxRecDepth 20000 in
theorem m_2_159 : (Jvm.Cond.instanceMethod ({ cls := "DrawerGloves$Rows", name := "total", desc := "(I)J" } : Jvm.MethodName)) ∈ gtbl := mg (mm_2 (List.mem_of_getElem? (i := 159) rfl)) rfl
set_option maxRecDepth 20000 in
theorem m_2_160 : (Jvm.Cond.selects "DrawerGloves$Rows" ({ cls := "DrawerGloves$Rows", name := "total", desc := "(I)J" } : Jvm.MethodName) ({ cls := "DrawerGloves$Rows", name := "total", desc := "(I)J" } : Jvm.MethodName)) ∈ gtbl := mg (mm_2 (List.mem_of_getElem? (i := 160) rfl)) rfl
set_option maxRecDepth 20000 in
theorem m_2_161 : (Jvm.Cond.code ({ cls := "DrawerGloves$Rows", name := "total", desc := "(I)J" } : Jvm.MethodName) prog_11_method_12_code (5 : Nat) (Option.some Jvm.ClassFile.FieldType.long)) ∈ gtbl := mg (mm_2 (List.mem_of_getElem? (i := 161) rfl)) rfl
set_option maxRecDepth 20000 in
theorem m_2_162 : (Jvm.Cond.methodLink "DrawerGloves$Rows" (55 : Nat) ({ cls := "DrawerGloves$Rows", name := "read", desc := "(II)I" } : Jvm.MethodName)) ∈ gtbl := mg (mm_2 (List.mem_of_getElem? (i := 162) rfl)) rfl
set_option maxRecDepth 20000 in
theorem m_2_163 : (Jvm.Cond.methodLink "DrawerGlovesLaw" (41 : Nat) ({ cls := "DrawerGloves", name := "text", desc := "(II)I" } : Jvm.MethodName)) ∈ gtbl := mg (mm_2 (List.mem_of_getElem? (i := 163) rfl)) rfl
set_option maxRecDepth 20000 in
theorem m_2_164 : (Jvm.Cond.instanceMethod ({ cls := "DrawerGloves", name := "text", desc := "(II)I" } : Jvm.MethodName)) ∈ gtbl := mg (mm_2 (List.mem_of_getElem? (i := 164) rfl)) rfl
set_option maxRecDepth 20000 in
theorem m_2_165 : (Jvm.Cond.selects "DrawerGloves" ({ cls := "DrawerGloves", name := "text", desc := "(II)I" } : Jvm.MethodName) ({ cls := "DrawerGloves", name := "text", desc := "(II)I" } : Jvm.MethodName)) ∈ gtbl := mg (mm_2 (List.mem_of_getElem? (i := 165) rfl)) rfl
set_option maxRecDepth 20000 in
theorem m_2_166 : (Jvm.Cond.code ({ cls := "DrawerGloves", name := "text", desc := "(II)I" } : Jvm.MethodName) prog_1_method_8_code (3 : Nat) (Option.some Jvm.ClassFile.FieldType.int)) ∈ gtbl := mg (mm_2 (List.mem_of_getElem? (i := 166) rfl)) rfl
set_option maxRecDepth 20000 in
theorem m_2_167 : (Jvm.Cond.methodLink "DrawerGlovesLaw" (45 : Nat) ({ cls := "DrawerGloves", name := "put", desc := "(III)I" } : Jvm.MethodName)) ∈ gtbl := mg (mm_2 (List.mem_of_getElem? (i := 167) rfl)) rfl
set_option maxRecDepth 20000 in
theorem m_2_168 : (Jvm.Cond.instanceMethod ({ cls := "DrawerGloves", name := "put", desc := "(III)I" } : Jvm.MethodName)) ∈ gtbl := mg (mm_2 (List.mem_of_getElem? (i := 168) rfl)) rfl
set_option maxRecDepth 20000 in
theorem m_2_169 : (Jvm.Cond.selects "DrawerGloves" ({ cls := "DrawerGloves", name := "put", desc := "(III)I" } : Jvm.MethodName) ({ cls := "DrawerGloves", name := "put", desc := "(III)I" } : Jvm.MethodName)) ∈ gtbl := mg (mm_2 (List.mem_of_getElem? (i := 169) rfl)) rfl
set_option maxRecDepth 20000 in
theorem m_2_170 : (Jvm.Cond.code ({ cls := "DrawerGloves", name := "put", desc := "(III)I" } : Jvm.MethodName) prog_1_method_9_code (6 : Nat) (Option.some Jvm.ClassFile.FieldType.int)) ∈ gtbl := mg (mm_2 (List.mem_of_getElem? (i := 170) rfl)) rfl
set_option maxRecDepth 20000 in
theorem m_2_171 : (Jvm.Cond.methodLink "DrawerGloves" (141 : Nat) ({ cls := "DrawerGloves", name := "refusedText", desc := "(I)I" } : Jvm.MethodName)) ∈ gtbl := mg (mm_2 (List.mem_of_getElem? (i := 171) rfl)) rfl
set_option maxRecDepth 20000 in
theorem m_2_173 : (Jvm.Cond.instanceMethod ({ cls := "DrawerGloves", name := "refusedText", desc := "(I)I" } : Jvm.MethodName)) ∈ gtbl := mg (mm_2 (List.mem_of_getElem? (i := 173) rfl)) rfl
set_option maxRecDepth 20000 in
theorem m_2_174 : (Jvm.Cond.code ({ cls := "DrawerGloves", name := "refusedText", desc := "(I)I" } : Jvm.MethodName) prog_1_method_48_code (2 : Nat) (Option.some Jvm.ClassFile.FieldType.int)) ∈ gtbl := mg (mm_2 (List.mem_of_getElem? (i := 174) rfl)) rfl
set_option maxRecDepth 20000 in
theorem m_2_175 : (Jvm.Cond.methodLink "DrawerGlovesLaw" (49 : Nat) ({ cls := "DrawerGloves", name := "fault", desc := "(I)I" } : Jvm.MethodName)) ∈ gtbl := mg (mm_2 (List.mem_of_getElem? (i := 175) rfl)) rfl
set_option maxRecDepth 20000 in
theorem m_2_176 : (Jvm.Cond.instanceMethod ({ cls := "DrawerGloves", name := "fault", desc := "(I)I" } : Jvm.MethodName)) ∈ gtbl := mg (mm_2 (List.mem_of_getElem? (i := 176) rfl)) rfl
set_option maxRecDepth 20000 in
theorem m_2_177 : (Jvm.Cond.selects "DrawerGloves" ({ cls := "DrawerGloves", name := "fault", desc := "(I)I" } : Jvm.MethodName) ({ cls := "DrawerGloves", name := "fault", desc := "(I)I" } : Jvm.MethodName)) ∈ gtbl := mg (mm_2 (List.mem_of_getElem? (i := 177) rfl)) rfl
set_option maxRecDepth 20000 in
theorem m_2_178 : (Jvm.Cond.code ({ cls := "DrawerGloves", name := "fault", desc := "(I)I" } : Jvm.MethodName) prog_1_method_10_code (3 : Nat) (Option.some Jvm.ClassFile.FieldType.int)) ∈ gtbl := mg (mm_2 (List.mem_of_getElem? (i := 178) rfl)) rfl
set_option maxRecDepth 20000 in
theorem m_2_179 : (Jvm.Cond.methodLink "DrawerGloves" (148 : Nat) ({ cls := "DrawerGloves$Reading", name := "faultOf", desc := "(LDrawerGloves$Rows;I)I" } : Jvm.MethodName)) ∈ gtbl := mg (mm_2 (List.mem_of_getElem? (i := 179) rfl)) rfl
set_option maxRecDepth 20000 in
theorem m_2_180 : (Jvm.Cond.instanceMethod ({ cls := "DrawerGloves$Reading", name := "faultOf", desc := "(LDrawerGloves$Rows;I)I" } : Jvm.MethodName)) ∈ gtbl := mg (mm_2 (List.mem_of_getElem? (i := 180) rfl)) rfl
set_option maxRecDepth 20000 in
theorem m_2_181 : (Jvm.Cond.selects "DrawerGloves$Reading" ({ cls := "DrawerGloves$Reading", name := "faultOf", desc := "(LDrawerGloves$Rows;I)I" } : Jvm.MethodName) ({ cls := "DrawerGloves$Reading", name := "faultOf", desc := "(LDrawerGloves$Rows;I)I" } : Jvm.MethodName)) ∈ gtbl := mg (mm_2 (List.mem_of_getElem? (i := 181) rfl)) rfl
set_option maxRecDepth 20000 in
theorem m_2_182 : (Jvm.Cond.code ({ cls := "DrawerGloves$Reading", name := "faultOf", desc := "(LDrawerGloves$Rows;I)I" } : Jvm.MethodName) prog_9_method_2_code (6 : Nat) (Option.some Jvm.ClassFile.FieldType.int)) ∈ gtbl := mg (mm_2 (List.mem_of_getElem? (i := 182) rfl)) rfl
set_option maxRecDepth 20000 in
theorem m_2_183 : (Jvm.Cond.methodLink "DrawerGloves$Reading" (28 : Nat) ({ cls := "DrawerGloves$Rows", name := "sizeOf", desc := "(I)I" } : Jvm.MethodName)) ∈ gtbl := mg (mm_2 (List.mem_of_getElem? (i := 183) rfl)) rfl
set_option maxRecDepth 20000 in
theorem m_2_184 : (Jvm.Cond.methodLink "DrawerGloves$Reading" (34 : Nat) ({ cls := "DrawerGloves$Reading", name := "pastBlanks", desc := "(LDrawerGloves$Rows;II)I" } : Jvm.MethodName)) ∈ gtbl := mg (mm_2 (List.mem_of_getElem? (i := 184) rfl)) rfl
set_option maxRecDepth 20000 in
theorem m_2_185 : (Jvm.Cond.static ({ cls := "DrawerGloves$Reading", name := "pastBlanks", desc := "(LDrawerGloves$Rows;II)I" } : Jvm.MethodName)) ∈ gtbl := mg (mm_2 (List.mem_of_getElem? (i := 185) rfl)) rfl
set_option maxRecDepth 20000 in
theorem m_2_186 : (Jvm.Cond.code ({ cls := "DrawerGloves$Reading", name := "pastBlanks", desc := "(LDrawerGloves$Rows;II)I" } : Jvm.MethodName) prog_9_method_4_code (5 : Nat) (Option.some Jvm.ClassFile.FieldType.int)) ∈ gtbl := mg (mm_2 (List.mem_of_getElem? (i := 186) rfl)) rfl
set_option maxRecDepth 20000 in
theorem m_2_187 : (Jvm.Cond.methodLink "DrawerGloves$Reading" (38 : Nat) ({ cls := "DrawerGloves$Rows", name := "read", desc := "(II)I" } : Jvm.MethodName)) ∈ gtbl := mg (mm_2 (List.mem_of_getElem? (i := 187) rfl)) rfl
set_option maxRecDepth 20000 in
theorem m_2_188 : (Jvm.Cond.methodLink "DrawerGloves$Reading" (42 : Nat) ({ cls := "DrawerGloves$Reading", name := "figure", desc := "(LDrawerGloves$Rows;IIII)I" } : Jvm.MethodName)) ∈ gtbl := mg (mm_2 (List.mem_of_getElem? (i := 188) rfl)) rfl
set_option maxRecDepth 20000 in
theorem m_2_189 : (Jvm.Cond.static ({ cls := "DrawerGloves$Reading", name := "figure", desc := "(LDrawerGloves$Rows;IIII)I" } : Jvm.MethodName)) ∈ gtbl := mg (mm_2 (List.mem_of_getElem? (i := 189) rfl)) rfl
set_option maxRecDepth 20000 in
theorem m_2_190 : (Jvm.Cond.code ({ cls := "DrawerGloves$Reading", name := "figure", desc := "(LDrawerGloves$Rows;IIII)I" } : Jvm.MethodName) prog_9_method_5_code (6 : Nat) (Option.some Jvm.ClassFile.FieldType.int)) ∈ gtbl := mg (mm_2 (List.mem_of_getElem? (i := 190) rfl)) rfl
set_option maxRecDepth 20000 in
theorem m_2_191 : (Jvm.Cond.methodLink "DrawerGloves$Reading" (55 : Nat) ({ cls := "DrawerGloves$Rows", name := "holds", desc := "(II)Z" } : Jvm.MethodName)) ∈ gtbl := mg (mm_2 (List.mem_of_getElem? (i := 191) rfl)) rfl
set_option maxRecDepth 20000 in
theorem m_2_192 : (Jvm.Cond.methodLink "DrawerGloves$Reading" (49 : Nat) ({ cls := "DrawerGloves$Reading", name := "faultOfGlove", desc := "(LDrawerGloves$Rows;II)I" } : Jvm.MethodName)) ∈ gtbl := mg (mm_2 (List.mem_of_getElem? (i := 192) rfl)) rfl
set_option maxRecDepth 20000 in
theorem m_2_194 : (Jvm.Cond.instanceMethod ({ cls := "DrawerGloves$Reading", name := "faultOfGlove", desc := "(LDrawerGloves$Rows;II)I" } : Jvm.MethodName)) ∈ gtbl := mg (mm_2 (List.mem_of_getElem? (i := 194) rfl)) rfl
set_option maxRecDepth 20000 in
theorem m_2_195 : (Jvm.Cond.code ({ cls := "DrawerGloves$Reading", name := "faultOfGlove", desc := "(LDrawerGloves$Rows;II)I" } : Jvm.MethodName) prog_9_method_3_code (4 : Nat) (Option.some Jvm.ClassFile.FieldType.int)) ∈ gtbl := mg (mm_2 (List.mem_of_getElem? (i := 195) rfl)) rfl
set_option maxRecDepth 20000 in
theorem m_2_196 : (Jvm.Cond.methodLink "DrawerGloves$Reading" (52 : Nat) ({ cls := "DrawerGloves$Reading", name := "kindOf", desc := "(I)I" } : Jvm.MethodName)) ∈ gtbl := mg (mm_2 (List.mem_of_getElem? (i := 196) rfl)) rfl
set_option maxRecDepth 20000 in
theorem m_2_197 : (Jvm.Cond.static ({ cls := "DrawerGloves$Reading", name := "kindOf", desc := "(I)I" } : Jvm.MethodName)) ∈ gtbl := mg (mm_2 (List.mem_of_getElem? (i := 197) rfl)) rfl
set_option maxRecDepth 20000 in
theorem m_2_198 : (Jvm.Cond.code ({ cls := "DrawerGloves$Reading", name := "kindOf", desc := "(I)I" } : Jvm.MethodName) prog_9_method_6_code (1 : Nat) (Option.some Jvm.ClassFile.FieldType.int)) ∈ gtbl := mg (mm_2 (List.mem_of_getElem? (i := 198) rfl)) rfl
set_option maxRecDepth 20000 in
theorem m_2_199 : (Jvm.Cond.methodLink "DrawerGlovesLaw" (53 : Nat) ({ cls := "DrawerGloves", name := "drawer", desc := "(I)I" } : Jvm.MethodName)) ∈ gtbl := mg (mm_2 (List.mem_of_getElem? (i := 199) rfl)) rfl
set_option maxRecDepth 20000 in
theorem m_2_200 : (Jvm.Cond.instanceMethod ({ cls := "DrawerGloves", name := "drawer", desc := "(I)I" } : Jvm.MethodName)) ∈ gtbl := mg (mm_2 (List.mem_of_getElem? (i := 200) rfl)) rfl
set_option maxRecDepth 20000 in
theorem m_2_201 : (Jvm.Cond.selects "DrawerGloves" ({ cls := "DrawerGloves", name := "drawer", desc := "(I)I" } : Jvm.MethodName) ({ cls := "DrawerGloves", name := "drawer", desc := "(I)I" } : Jvm.MethodName)) ∈ gtbl := mg (mm_2 (List.mem_of_getElem? (i := 201) rfl)) rfl
set_option maxRecDepth 20000 in
theorem m_2_202 : (Jvm.Cond.code ({ cls := "DrawerGloves", name := "drawer", desc := "(I)I" } : Jvm.MethodName) prog_1_method_11_code (4 : Nat) (Option.some Jvm.ClassFile.FieldType.int)) ∈ gtbl := mg (mm_2 (List.mem_of_getElem? (i := 202) rfl)) rfl
set_option maxRecDepth 20000 in
theorem m_2_203 : (Jvm.Cond.methodLink "DrawerGloves" (152 : Nat) ({ cls := "DrawerGloves$Drawer", name := "fill", desc := "(LDrawerGloves$Reading;)V" } : Jvm.MethodName)) ∈ gtbl := mg (mm_2 (List.mem_of_getElem? (i := 203) rfl)) rfl
set_option maxRecDepth 20000 in
theorem m_2_204 : (Jvm.Cond.instanceMethod ({ cls := "DrawerGloves$Drawer", name := "fill", desc := "(LDrawerGloves$Reading;)V" } : Jvm.MethodName)) ∈ gtbl := mg (mm_2 (List.mem_of_getElem? (i := 204) rfl)) rfl
set_option maxRecDepth 20000 in
theorem m_2_205 : (Jvm.Cond.selects "DrawerGloves$Drawer" ({ cls := "DrawerGloves$Drawer", name := "fill", desc := "(LDrawerGloves$Reading;)V" } : Jvm.MethodName) ({ cls := "DrawerGloves$Drawer", name := "fill", desc := "(LDrawerGloves$Reading;)V" } : Jvm.MethodName)) ∈ gtbl := mg (mm_2 (List.mem_of_getElem? (i := 205) rfl)) rfl
set_option maxRecDepth 20000 in
theorem m_2_206 : (Jvm.Cond.code ({ cls := "DrawerGloves$Drawer", name := "fill", desc := "(LDrawerGloves$Reading;)V" } : Jvm.MethodName) prog_5_method_2_code (3 : Nat) (Option.none : Option Jvm.ClassFile.FieldType)) ∈ gtbl := mg (mm_2 (List.mem_of_getElem? (i := 206) rfl)) rfl
set_option maxRecDepth 20000 in
theorem m_2_207 : (Jvm.Cond.methodLink "DrawerGloves$Drawer" (58 : Nat) ({ cls := "DrawerGloves$Drawer", name := "replay", desc := "()V" } : Jvm.MethodName)) ∈ gtbl := mg (mm_2 (List.mem_of_getElem? (i := 207) rfl)) rfl
set_option maxRecDepth 20000 in
theorem m_2_208 : (Jvm.Cond.instanceMethod ({ cls := "DrawerGloves$Drawer", name := "replay", desc := "()V" } : Jvm.MethodName)) ∈ gtbl := mg (mm_2 (List.mem_of_getElem? (i := 208) rfl)) rfl
set_option maxRecDepth 20000 in
theorem m_2_209 : (Jvm.Cond.selects "DrawerGloves$Drawer" ({ cls := "DrawerGloves$Drawer", name := "replay", desc := "()V" } : Jvm.MethodName) ({ cls := "DrawerGloves$Drawer", name := "replay", desc := "()V" } : Jvm.MethodName)) ∈ gtbl := mg (mm_2 (List.mem_of_getElem? (i := 209) rfl)) rfl
set_option maxRecDepth 20000 in
theorem m_2_210 : (Jvm.Cond.code ({ cls := "DrawerGloves$Drawer", name := "replay", desc := "()V" } : Jvm.MethodName) prog_5_method_17_code (3 : Nat) (Option.none : Option Jvm.ClassFile.FieldType)) ∈ gtbl := mg (mm_2 (List.mem_of_getElem? (i := 210) rfl)) rfl
set_option maxRecDepth 20000 in
theorem m_2_211 : (Jvm.Cond.methodLink "DrawerGloves$Drawer" (98 : Nat) ({ cls := "DrawerGloves$Drawer", name := "carryOut", desc := "(III)V" } : Jvm.MethodName)) ∈ gtbl := mg (mm_2 (List.mem_of_getElem? (i := 211) rfl)) rfl
set_option maxRecDepth 20000 in
theorem m_2_213 : (Jvm.Cond.instanceMethod ({ cls := "DrawerGloves$Drawer", name := "carryOut", desc := "(III)V" } : Jvm.MethodName)) ∈ gtbl := mg (mm_2 (List.mem_of_getElem? (i := 213) rfl)) rfl
set_option maxRecDepth 20000 in
theorem m_2_214 : (Jvm.Cond.code ({ cls := "DrawerGloves$Drawer", name := "carryOut", desc := "(III)V" } : Jvm.MethodName) prog_5_method_18_code (4 : Nat) (Option.none : Option Jvm.ClassFile.FieldType)) ∈ gtbl := mg (mm_2 (List.mem_of_getElem? (i := 214) rfl)) rfl
set_option maxRecDepth 20000 in
theorem m_2_215 : (Jvm.Cond.methodLink "DrawerGloves$Drawer" (61 : Nat) ({ cls := "DrawerGloves$Drawer", name := "has", desc := "(I)Z" } : Jvm.MethodName)) ∈ gtbl := mg (mm_2 (List.mem_of_getElem? (i := 215) rfl)) rfl
set_option maxRecDepth 20000 in
theorem m_2_216 : (Jvm.Cond.instanceMethod ({ cls := "DrawerGloves$Drawer", name := "has", desc := "(I)Z" } : Jvm.MethodName)) ∈ gtbl := mg (mm_2 (List.mem_of_getElem? (i := 216) rfl)) rfl
set_option maxRecDepth 20000 in
theorem m_2_217 : (Jvm.Cond.selects "DrawerGloves$Drawer" ({ cls := "DrawerGloves$Drawer", name := "has", desc := "(I)Z" } : Jvm.MethodName) ({ cls := "DrawerGloves$Drawer", name := "has", desc := "(I)Z" } : Jvm.MethodName)) ∈ gtbl := mg (mm_2 (List.mem_of_getElem? (i := 217) rfl)) rfl
set_option maxRecDepth 20000 in
theorem m_2_218 : (Jvm.Cond.code ({ cls := "DrawerGloves$Drawer", name := "has", desc := "(I)Z" } : Jvm.MethodName) prog_5_method_3_code (2 : Nat) (Option.some Jvm.ClassFile.FieldType.boolean)) ∈ gtbl := mg (mm_2 (List.mem_of_getElem? (i := 218) rfl)) rfl
set_option maxRecDepth 20000 in
theorem m_2_219 : (Jvm.Cond.methodLink "DrawerGlovesLaw" (57 : Nat) ({ cls := "DrawerGloves", name := "glove", desc := "(II)I" } : Jvm.MethodName)) ∈ gtbl := mg (mm_2 (List.mem_of_getElem? (i := 219) rfl)) rfl
set_option maxRecDepth 20000 in
theorem m_2_220 : (Jvm.Cond.instanceMethod ({ cls := "DrawerGloves", name := "glove", desc := "(II)I" } : Jvm.MethodName)) ∈ gtbl := mg (mm_2 (List.mem_of_getElem? (i := 220) rfl)) rfl
set_option maxRecDepth 20000 in
theorem m_2_221 : (Jvm.Cond.selects "DrawerGloves" ({ cls := "DrawerGloves", name := "glove", desc := "(II)I" } : Jvm.MethodName) ({ cls := "DrawerGloves", name := "glove", desc := "(II)I" } : Jvm.MethodName)) ∈ gtbl := mg (mm_2 (List.mem_of_getElem? (i := 221) rfl)) rfl
set_option maxRecDepth 20000 in
theorem m_2_222 : (Jvm.Cond.code ({ cls := "DrawerGloves", name := "glove", desc := "(II)I" } : Jvm.MethodName) prog_1_method_12_code (3 : Nat) (Option.some Jvm.ClassFile.FieldType.int)) ∈ gtbl := mg (mm_2 (List.mem_of_getElem? (i := 222) rfl)) rfl
set_option maxRecDepth 20000 in
theorem m_2_223 : (Jvm.Cond.methodLink "DrawerGloves" (157 : Nat) ({ cls := "DrawerGloves$Drawer", name := "has", desc := "(I)Z" } : Jvm.MethodName)) ∈ gtbl := mg (mm_2 (List.mem_of_getElem? (i := 223) rfl)) rfl
set_option maxRecDepth 20000 in
theorem m_2_224 : (Jvm.Cond.methodLink "DrawerGloves" (164 : Nat) ({ cls := "DrawerGloves$Glove", name := "tell", desc := "(I)I" } : Jvm.MethodName)) ∈ gtbl := mg (mm_2 (List.mem_of_getElem? (i := 224) rfl)) rfl
set_option maxRecDepth 20000 in
theorem m_2_225 : (Jvm.Cond.instanceMethod ({ cls := "DrawerGloves$Glove", name := "tell", desc := "(I)I" } : Jvm.MethodName)) ∈ gtbl := mg (mm_2 (List.mem_of_getElem? (i := 225) rfl)) rfl
set_option maxRecDepth 20000 in
theorem m_2_226 : (Jvm.Cond.selects "DrawerGloves$Glove" ({ cls := "DrawerGloves$Glove", name := "tell", desc := "(I)I" } : Jvm.MethodName) ({ cls := "DrawerGloves$Glove", name := "tell", desc := "(I)I" } : Jvm.MethodName)) ∈ gtbl := mg (mm_2 (List.mem_of_getElem? (i := 226) rfl)) rfl
set_option maxRecDepth 20000 in
theorem m_2_227 : (Jvm.Cond.code ({ cls := "DrawerGloves$Glove", name := "tell", desc := "(I)I" } : Jvm.MethodName) prog_6_method_9_code (2 : Nat) (Option.some Jvm.ClassFile.FieldType.int)) ∈ gtbl := mg (mm_2 (List.mem_of_getElem? (i := 227) rfl)) rfl
set_option maxRecDepth 20000 in
theorem m_2_228 : (Jvm.Cond.methodLink "DrawerGloves$Glove" (51 : Nat) ({ cls := "DrawerGloves$Glove", name := "warmth", desc := "()I" } : Jvm.MethodName)) ∈ gtbl := mg (mm_2 (List.mem_of_getElem? (i := 228) rfl)) rfl
set_option maxRecDepth 20000 in
theorem m_2_229 : (Jvm.Cond.instanceMethod ({ cls := "DrawerGloves$Glove", name := "warmth", desc := "()I" } : Jvm.MethodName)) ∈ gtbl := mg (mm_2 (List.mem_of_getElem? (i := 229) rfl)) rfl
set_option maxRecDepth 20000 in
theorem m_2_230 : (Jvm.Cond.selects "DrawerGloves$Glove" ({ cls := "DrawerGloves$Glove", name := "warmth", desc := "()I" } : Jvm.MethodName) ({ cls := "DrawerGloves$Glove", name := "warmth", desc := "()I" } : Jvm.MethodName)) ∈ gtbl := mg (mm_2 (List.mem_of_getElem? (i := 230) rfl)) rfl
set_option maxRecDepth 20000 in
theorem m_2_231 : (Jvm.Cond.code ({ cls := "DrawerGloves$Glove", name := "warmth", desc := "()I" } : Jvm.MethodName) prog_6_method_5_code (2 : Nat) (Option.some Jvm.ClassFile.FieldType.int)) ∈ gtbl := mg (mm_2 (List.mem_of_getElem? (i := 231) rfl)) rfl
set_option maxRecDepth 20000 in
theorem m_2_232 : (Jvm.Cond.methodLink "DrawerGloves$Glove" (36 : Nat) ({ cls := "DrawerGloves$Glove", name := "bareWarmth", desc := "()I" } : Jvm.MethodName)) ∈ gtbl := mg (mm_2 (List.mem_of_getElem? (i := 232) rfl)) rfl
set_option maxRecDepth 20000 in
theorem m_2_233 : (Jvm.Cond.instanceMethod ({ cls := "DrawerGloves$Glove", name := "bareWarmth", desc := "()I" } : Jvm.MethodName)) ∈ gtbl := mg (mm_2 (List.mem_of_getElem? (i := 233) rfl)) rfl
set_option maxRecDepth 20000 in
theorem m_2_234 : (Jvm.Cond.selects "DrawerGloves$Glove" ({ cls := "DrawerGloves$Glove", name := "bareWarmth", desc := "()I" } : Jvm.MethodName) ({ cls := "DrawerGloves$Glove", name := "bareWarmth", desc := "()I" } : Jvm.MethodName)) ∈ gtbl := mg (mm_2 (List.mem_of_getElem? (i := 234) rfl)) rfl
set_option maxRecDepth 20000 in
theorem m_2_235 : (Jvm.Cond.code ({ cls := "DrawerGloves$Glove", name := "bareWarmth", desc := "()I" } : Jvm.MethodName) prog_6_method_4_code (1 : Nat) (Option.some Jvm.ClassFile.FieldType.int)) ∈ gtbl := mg (mm_2 (List.mem_of_getElem? (i := 235) rfl)) rfl
set_option maxRecDepth 20000 in
theorem m_2_236 : (Jvm.Cond.methodLink "DrawerGloves$Glove" (30 : Nat) ({ cls := "java/lang/Math", name := "max", desc := "(II)I" } : Jvm.MethodName)) ∈ gtbl := mg (mm_2 (List.mem_of_getElem? (i := 236) rfl)) rfl
set_option maxRecDepth 20000 in
theorem m_2_237 : (Jvm.Cond.methodLink "DrawerGlovesLaw" (61 : Nat) ({ cls := "DrawerGloves", name := "mark", desc := "(II)I" } : Jvm.MethodName)) ∈ gtbl := mg (mm_2 (List.mem_of_getElem? (i := 237) rfl)) rfl
set_option maxRecDepth 20000 in
theorem m_2_238 : (Jvm.Cond.instanceMethod ({ cls := "DrawerGloves", name := "mark", desc := "(II)I" } : Jvm.MethodName)) ∈ gtbl := mg (mm_2 (List.mem_of_getElem? (i := 238) rfl)) rfl
set_option maxRecDepth 20000 in
theorem m_2_239 : (Jvm.Cond.selects "DrawerGloves" ({ cls := "DrawerGloves", name := "mark", desc := "(II)I" } : Jvm.MethodName) ({ cls := "DrawerGloves", name := "mark", desc := "(II)I" } : Jvm.MethodName)) ∈ gtbl := mg (mm_2 (List.mem_of_getElem? (i := 239) rfl)) rfl
set_option maxRecDepth 20000 in
theorem m_3_0 : (Jvm.Cond.code ({ cls := "DrawerGloves", name := "mark", desc := "(II)I" } : Jvm.MethodName) prog_1_method_13_code (3 : Nat) (Option.some Jvm.ClassFile.FieldType.int)) ∈ gtbl := mg (mm_3 (List.mem_of_getElem? (i := 0) rfl)) rfl
set_option maxRecDepth 20000 in
theorem m_3_1 : (Jvm.Cond.methodLink "DrawerGloves" (169 : Nat) ({ cls := "DrawerGloves$Glove", name := "isOf", desc := "(I)Z" } : Jvm.MethodName)) ∈ gtbl := mg (mm_3 (List.mem_of_getElem? (i := 1) rfl)) rfl
set_option maxRecDepth 20000 in
theorem m_3_2 : (Jvm.Cond.instanceMethod ({ cls := "DrawerGloves$Glove", name := "isOf", desc := "(I)Z" } : Jvm.MethodName)) ∈ gtbl := mg (mm_3 (List.mem_of_getElem? (i := 2) rfl)) rfl
set_option maxRecDepth 20000 in
theorem m_3_3 : (Jvm.Cond.selects "DrawerGloves$Glove" ({ cls := "DrawerGloves$Glove", name := "isOf", desc := "(I)Z" } : Jvm.MethodName) ({ cls := "DrawerGloves$Glove", name := "isOf", desc := "(I)Z" } : Jvm.MethodName)) ∈ gtbl := mg (mm_3 (List.mem_of_getElem? (i := 3) rfl)) rfl
set_option maxRecDepth 20000 in
theorem m_3_4 : (Jvm.Cond.code ({ cls := "DrawerGloves$Glove", name := "isOf", desc := "(I)Z" } : Jvm.MethodName) prog_6_method_3_code (2 : Nat) (Option.some Jvm.ClassFile.FieldType.boolean)) ∈ gtbl := mg (mm_3 (List.mem_of_getElem? (i := 4) rfl)) rfl
set_option maxRecDepth 20000 in
theorem m_3_5 : (Jvm.Cond.methodLink "DrawerGloves" (172 : Nat) ({ cls := "DrawerGloves$Glove", name := "warmth", desc := "()I" } : Jvm.MethodName)) ∈ gtbl := mg (mm_3 (List.mem_of_getElem? (i := 5) rfl)) rfl
set_option maxRecDepth 20000 in
theorem m_3_6 : (Jvm.Cond.methodLink "DrawerGloves" (176 : Nat) ({ cls := "DrawerGloves$Glove", name := "bareWarmth", desc := "()I" } : Jvm.MethodName)) ∈ gtbl := mg (mm_3 (List.mem_of_getElem? (i := 6) rfl)) rfl
set_option maxRecDepth 20000 in
theorem m_3_7 : (Jvm.Cond.methodLink "DrawerGloves" (179 : Nat) ({ cls := "DrawerGloves$Drawer", name := "matesOf", desc := "(I)I" } : Jvm.MethodName)) ∈ gtbl := mg (mm_3 (List.mem_of_getElem? (i := 7) rfl)) rfl
set_option maxRecDepth 20000 in
theorem m_3_8 : (Jvm.Cond.instanceMethod ({ cls := "DrawerGloves$Drawer", name := "matesOf", desc := "(I)I" } : Jvm.MethodName)) ∈ gtbl := mg (mm_3 (List.mem_of_getElem? (i := 8) rfl)) rfl
set_option maxRecDepth 20000 in
theorem m_3_9 : (Jvm.Cond.selects "DrawerGloves$Drawer" ({ cls := "DrawerGloves$Drawer", name := "matesOf", desc := "(I)I" } : Jvm.MethodName) ({ cls := "DrawerGloves$Drawer", name := "matesOf", desc := "(I)I" } : Jvm.MethodName)) ∈ gtbl := mg (mm_3 (List.mem_of_getElem? (i := 9) rfl)) rfl
set_option maxRecDepth 20000 in
theorem m_3_10 : (Jvm.Cond.code ({ cls := "DrawerGloves$Drawer", name := "matesOf", desc := "(I)I" } : Jvm.MethodName) prog_5_method_12_code (4 : Nat) (Option.some Jvm.ClassFile.FieldType.int)) ∈ gtbl := mg (mm_3 (List.mem_of_getElem? (i := 10) rfl)) rfl
set_option maxRecDepth 20000 in
theorem m_3_11 : (Jvm.Cond.methodLink "DrawerGloves$Drawer" (68 : Nat) ({ cls := "DrawerGloves$Drawer", name := "isInside", desc := "(I)Z" } : Jvm.MethodName)) ∈ gtbl := mg (mm_3 (List.mem_of_getElem? (i := 11) rfl)) rfl
set_option maxRecDepth 20000 in
theorem m_3_12 : (Jvm.Cond.instanceMethod ({ cls := "DrawerGloves$Drawer", name := "isInside", desc := "(I)Z" } : Jvm.MethodName)) ∈ gtbl := mg (mm_3 (List.mem_of_getElem? (i := 12) rfl)) rfl
set_option maxRecDepth 20000 in
theorem m_3_13 : (Jvm.Cond.selects "DrawerGloves$Drawer" ({ cls := "DrawerGloves$Drawer", name := "isInside", desc := "(I)Z" } : Jvm.MethodName) ({ cls := "DrawerGloves$Drawer", name := "isInside", desc := "(I)Z" } : Jvm.MethodName)) ∈ gtbl := mg (mm_3 (List.mem_of_getElem? (i := 13) rfl)) rfl
set_option maxRecDepth 20000 in
theorem m_3_14 : (Jvm.Cond.code ({ cls := "DrawerGloves$Drawer", name := "isInside", desc := "(I)Z" } : Jvm.MethodName) prog_5_method_5_code (2 : Nat) (Option.some Jvm.ClassFile.FieldType.boolean)) ∈ gtbl := mg (mm_3 (List.mem_of_getElem? (i := 14) rfl)) rfl
set_option maxRecDepth 20000 in
theorem m_3_15 : (Jvm.Cond.methodLink "DrawerGloves$Drawer" (90 : Nat) ({ cls := "DrawerGloves$Glove", name := "makesPairWith", desc := "(LDrawerGloves$Glove;)Z" } : Jvm.MethodName)) ∈ gtbl := mg (mm_3 (List.mem_of_getElem? (i := 15) rfl)) rfl
set_option maxRecDepth 20000 in
theorem m_3_16 : (Jvm.Cond.instanceMethod ({ cls := "DrawerGloves$Glove", name := "makesPairWith", desc := "(LDrawerGloves$Glove;)Z" } : Jvm.MethodName)) ∈ gtbl := mg (mm_3 (List.mem_of_getElem? (i := 16) rfl)) rfl
set_option maxRecDepth 20000 in
theorem m_3_17 : (Jvm.Cond.selects "DrawerGloves$Glove" ({ cls := "DrawerGloves$Glove", name := "makesPairWith", desc := "(LDrawerGloves$Glove;)Z" } : Jvm.MethodName) ({ cls := "DrawerGloves$Glove", name := "makesPairWith", desc := "(LDrawerGloves$Glove;)Z" } : Jvm.MethodName)) ∈ gtbl := mg (mm_3 (List.mem_of_getElem? (i := 17) rfl)) rfl
set_option maxRecDepth 20000 in
theorem m_3_18 : (Jvm.Cond.code ({ cls := "DrawerGloves$Glove", name := "makesPairWith", desc := "(LDrawerGloves$Glove;)Z" } : Jvm.MethodName) prog_6_method_7_code (2 : Nat) (Option.some Jvm.ClassFile.FieldType.boolean)) ∈ gtbl := mg (mm_3 (List.mem_of_getElem? (i := 18) rfl)) rfl
set_option maxRecDepth 20000 in
theorem m_3_19 : (Jvm.Cond.methodLink "DrawerGloves$Glove" (44 : Nat) ({ cls := "DrawerGloves$Glove", name := "goesOn", desc := "(I)Z" } : Jvm.MethodName)) ∈ gtbl := mg (mm_3 (List.mem_of_getElem? (i := 19) rfl)) rfl
set_option maxRecDepth 20000 in
theorem m_3_21 : (Jvm.Cond.instanceMethod ({ cls := "DrawerGloves$Glove", name := "goesOn", desc := "(I)Z" } : Jvm.MethodName)) ∈ gtbl := mg (mm_3 (List.mem_of_getElem? (i := 21) rfl)) rfl
set_option maxRecDepth 20000 in
theorem m_3_22 : (Jvm.Cond.code ({ cls := "DrawerGloves$Glove", name := "goesOn", desc := "(I)Z" } : Jvm.MethodName) prog_6_method_6_code (2 : Nat) (Option.some Jvm.ClassFile.FieldType.boolean)) ∈ gtbl := mg (mm_3 (List.mem_of_getElem? (i := 22) rfl)) rfl
set_option maxRecDepth 20000 in
theorem m_3_23 : (Jvm.Cond.methodLink "DrawerGloves$Glove" (40 : Nat) ({ cls := "DrawerGloves$Glove", name := "isOf", desc := "(I)Z" } : Jvm.MethodName)) ∈ gtbl := mg (mm_3 (List.mem_of_getElem? (i := 23) rfl)) rfl
set_option maxRecDepth 20000 in
theorem m_3_24 : (Jvm.Cond.methodLink "DrawerGloves" (182 : Nat) ({ cls := "DrawerGloves$Drawer", name := "sameSortAs", desc := "(I)I" } : Jvm.MethodName)) ∈ gtbl := mg (mm_3 (List.mem_of_getElem? (i := 24) rfl)) rfl
set_option maxRecDepth 20000 in
theorem m_3_25 : (Jvm.Cond.instanceMethod ({ cls := "DrawerGloves$Drawer", name := "sameSortAs", desc := "(I)I" } : Jvm.MethodName)) ∈ gtbl := mg (mm_3 (List.mem_of_getElem? (i := 25) rfl)) rfl
set_option maxRecDepth 20000 in
theorem m_3_26 : (Jvm.Cond.selects "DrawerGloves$Drawer" ({ cls := "DrawerGloves$Drawer", name := "sameSortAs", desc := "(I)I" } : Jvm.MethodName) ({ cls := "DrawerGloves$Drawer", name := "sameSortAs", desc := "(I)I" } : Jvm.MethodName)) ∈ gtbl := mg (mm_3 (List.mem_of_getElem? (i := 26) rfl)) rfl
set_option maxRecDepth 20000 in
theorem m_3_27 : (Jvm.Cond.code ({ cls := "DrawerGloves$Drawer", name := "sameSortAs", desc := "(I)I" } : Jvm.MethodName) prog_5_method_13_code (4 : Nat) (Option.some Jvm.ClassFile.FieldType.int)) ∈ gtbl := mg (mm_3 (List.mem_of_getElem? (i := 27) rfl)) rfl
set_option maxRecDepth 20000 in
theorem m_3_28 : (Jvm.Cond.methodLink "DrawerGloves" (188 : Nat) ({ cls := "java/lang/Math", name := "max", desc := "(II)I" } : Jvm.MethodName)) ∈ gtbl := mg (mm_3 (List.mem_of_getElem? (i := 28) rfl)) rfl
set_option maxRecDepth 20000 in
theorem m_3_29 : (Jvm.Cond.methodLink "DrawerGloves" (193 : Nat) ({ cls := "DrawerGloves$Guess", name := "gainOfStretch", desc := "(LDrawerGloves$Drawer;I)I" } : Jvm.MethodName)) ∈ gtbl := mg (mm_3 (List.mem_of_getElem? (i := 29) rfl)) rfl
set_option maxRecDepth 20000 in
theorem m_3_30 : (Jvm.Cond.instanceMethod ({ cls := "DrawerGloves$Guess", name := "gainOfStretch", desc := "(LDrawerGloves$Drawer;I)I" } : Jvm.MethodName)) ∈ gtbl := mg (mm_3 (List.mem_of_getElem? (i := 30) rfl)) rfl
set_option maxRecDepth 20000 in
theorem m_3_31 : (Jvm.Cond.selects "DrawerGloves$Guess" ({ cls := "DrawerGloves$Guess", name := "gainOfStretch", desc := "(LDrawerGloves$Drawer;I)I" } : Jvm.MethodName) ({ cls := "DrawerGloves$Guess", name := "gainOfStretch", desc := "(LDrawerGloves$Drawer;I)I" } : Jvm.MethodName)) ∈ gtbl := mg (mm_3 (List.mem_of_getElem? (i := 31) rfl)) rfl
set_option maxRecDepth 20000 in
theorem m_3_32 : (Jvm.Cond.code ({ cls := "DrawerGloves$Guess", name := "gainOfStretch", desc := "(LDrawerGloves$Drawer;I)I" } : Jvm.MethodName) prog_7_method_10_code (5 : Nat) (Option.some Jvm.ClassFile.FieldType.int)) ∈ gtbl := mg (mm_3 (List.mem_of_getElem? (i := 32) rfl)) rfl
set_option maxRecDepth 20000 in
theorem m_3_33 : (Jvm.Cond.methodLink "DrawerGloves$Guess" (46 : Nat) ({ cls := "DrawerGloves$Glove", name := "becomeLike", desc := "(LDrawerGloves$Glove;)V" } : Jvm.MethodName)) ∈ gtbl := mg (mm_3 (List.mem_of_getElem? (i := 33) rfl)) rfl
set_option maxRecDepth 20000 in
theorem m_3_34 : (Jvm.Cond.instanceMethod ({ cls := "DrawerGloves$Glove", name := "becomeLike", desc := "(LDrawerGloves$Glove;)V" } : Jvm.MethodName)) ∈ gtbl := mg (mm_3 (List.mem_of_getElem? (i := 34) rfl)) rfl
set_option maxRecDepth 20000 in
theorem m_3_35 : (Jvm.Cond.selects "DrawerGloves$Glove" ({ cls := "DrawerGloves$Glove", name := "becomeLike", desc := "(LDrawerGloves$Glove;)V" } : Jvm.MethodName) ({ cls := "DrawerGloves$Glove", name := "becomeLike", desc := "(LDrawerGloves$Glove;)V" } : Jvm.MethodName)) ∈ gtbl := mg (mm_3 (List.mem_of_getElem? (i := 35) rfl)) rfl
set_option maxRecDepth 20000 in
theorem m_3_36 : (Jvm.Cond.code ({ cls := "DrawerGloves$Glove", name := "becomeLike", desc := "(LDrawerGloves$Glove;)V" } : Jvm.MethodName) prog_6_method_2_code (2 : Nat) (Option.none : Option Jvm.ClassFile.FieldType)) ∈ gtbl := mg (mm_3 (List.mem_of_getElem? (i := 36) rfl)) rfl
set_option maxRecDepth 20000 in
theorem m_3_37 : (Jvm.Cond.methodLink "DrawerGloves$Guess" (79 : Nat) ({ cls := "DrawerGloves$Drawer", name := "isInside", desc := "(I)Z" } : Jvm.MethodName)) ∈ gtbl := mg (mm_3 (List.mem_of_getElem? (i := 37) rfl)) rfl
set_option maxRecDepth 20000 in
theorem m_3_38 : (Jvm.Cond.methodLink "DrawerGloves$Guess" (42 : Nat) ({ cls := "DrawerGloves$Glove", name := "goodWith", desc := "(LDrawerGloves$Glove;)I" } : Jvm.MethodName)) ∈ gtbl := mg (mm_3 (List.mem_of_getElem? (i := 38) rfl)) rfl
set_option maxRecDepth 20000 in
theorem m_3_39 : (Jvm.Cond.instanceMethod ({ cls := "DrawerGloves$Glove", name := "goodWith", desc := "(LDrawerGloves$Glove;)I" } : Jvm.MethodName)) ∈ gtbl := mg (mm_3 (List.mem_of_getElem? (i := 39) rfl)) rfl
set_option maxRecDepth 20000 in
theorem m_3_40 : (Jvm.Cond.selects "DrawerGloves$Glove" ({ cls := "DrawerGloves$Glove", name := "goodWith", desc := "(LDrawerGloves$Glove;)I" } : Jvm.MethodName) ({ cls := "DrawerGloves$Glove", name := "goodWith", desc := "(LDrawerGloves$Glove;)I" } : Jvm.MethodName)) ∈ gtbl := mg (mm_3 (List.mem_of_getElem? (i := 40) rfl)) rfl
set_option maxRecDepth 20000 in
theorem m_3_41 : (Jvm.Cond.code ({ cls := "DrawerGloves$Glove", name := "goodWith", desc := "(LDrawerGloves$Glove;)I" } : Jvm.MethodName) prog_6_method_8_code (3 : Nat) (Option.some Jvm.ClassFile.FieldType.int)) ∈ gtbl := mg (mm_3 (List.mem_of_getElem? (i := 41) rfl)) rfl
set_option maxRecDepth 20000 in
theorem m_3_42 : (Jvm.Cond.methodLink "DrawerGloves$Glove" (47 : Nat) ({ cls := "DrawerGloves$Glove", name := "makesPairWith", desc := "(LDrawerGloves$Glove;)Z" } : Jvm.MethodName)) ∈ gtbl := mg (mm_3 (List.mem_of_getElem? (i := 42) rfl)) rfl
set_option maxRecDepth 20000 in
theorem m_3_43 : (Jvm.Cond.methodLink "DrawerGloves$Glove" (54 : Nat) ({ cls := "java/lang/Math", name := "abs", desc := "(I)I" } : Jvm.MethodName)) ∈ gtbl := mg (mm_3 (List.mem_of_getElem? (i := 43) rfl)) rfl
set_option maxRecDepth 20000 in
theorem m_3_44 : (Jvm.Cond.static ({ cls := "java/lang/Math", name := "abs", desc := "(I)I" } : Jvm.MethodName)) ∈ gtbl := mg (mm_3 (List.mem_of_getElem? (i := 44) rfl)) rfl
set_option maxRecDepth 20000 in
theorem m_3_45 : (Jvm.Cond.code ({ cls := "java/lang/Math", name := "abs", desc := "(I)I" } : Jvm.MethodName) prog_15_method_59_code (1 : Nat) (Option.some Jvm.ClassFile.FieldType.int)) ∈ gtbl := mg (mm_3 (List.mem_of_getElem? (i := 45) rfl)) rfl
set_option maxRecDepth 20000 in
theorem m_3_46 : (Jvm.Cond.methodLink "DrawerGlovesLaw" (65 : Nat) ({ cls := "DrawerGloves", name := "pair", desc := "(II)I" } : Jvm.MethodName)) ∈ gtbl := mg (mm_3 (List.mem_of_getElem? (i := 46) rfl)) rfl
set_option maxRecDepth 20000 in
theorem m_3_47 : (Jvm.Cond.instanceMethod ({ cls := "DrawerGloves", name := "pair", desc := "(II)I" } : Jvm.MethodName)) ∈ gtbl := mg (mm_3 (List.mem_of_getElem? (i := 47) rfl)) rfl
set_option maxRecDepth 20000 in
theorem m_3_48 : (Jvm.Cond.selects "DrawerGloves" ({ cls := "DrawerGloves", name := "pair", desc := "(II)I" } : Jvm.MethodName) ({ cls := "DrawerGloves", name := "pair", desc := "(II)I" } : Jvm.MethodName)) ∈ gtbl := mg (mm_3 (List.mem_of_getElem? (i := 48) rfl)) rfl
set_option maxRecDepth 20000 in
theorem m_3_49 : (Jvm.Cond.code ({ cls := "DrawerGloves", name := "pair", desc := "(II)I" } : Jvm.MethodName) prog_1_method_14_code (3 : Nat) (Option.some Jvm.ClassFile.FieldType.int)) ∈ gtbl := mg (mm_3 (List.mem_of_getElem? (i := 49) rfl)) rfl
set_option maxRecDepth 20000 in
theorem m_3_50 : (Jvm.Cond.methodLink "DrawerGloves" (197 : Nat) ({ cls := "DrawerGloves$Glove", name := "goodWith", desc := "(LDrawerGloves$Glove;)I" } : Jvm.MethodName)) ∈ gtbl := mg (mm_3 (List.mem_of_getElem? (i := 50) rfl)) rfl
set_option maxRecDepth 20000 in
theorem m_3_51 : (Jvm.Cond.methodLink "DrawerGlovesLaw" (69 : Nat) ({ cls := "DrawerGloves", name := "wear", desc := "(II)I" } : Jvm.MethodName)) ∈ gtbl := mg (mm_3 (List.mem_of_getElem? (i := 51) rfl)) rfl
set_option maxRecDepth 20000 in
theorem m_3_52 : (Jvm.Cond.instanceMethod ({ cls := "DrawerGloves", name := "wear", desc := "(II)I" } : Jvm.MethodName)) ∈ gtbl := mg (mm_3 (List.mem_of_getElem? (i := 52) rfl)) rfl
set_option maxRecDepth 20000 in
theorem m_3_53 : (Jvm.Cond.selects "DrawerGloves" ({ cls := "DrawerGloves", name := "wear", desc := "(II)I" } : Jvm.MethodName) ({ cls := "DrawerGloves", name := "wear", desc := "(II)I" } : Jvm.MethodName)) ∈ gtbl := mg (mm_3 (List.mem_of_getElem? (i := 53) rfl)) rfl
set_option maxRecDepth 20000 in
theorem m_3_54 : (Jvm.Cond.code ({ cls := "DrawerGloves", name := "wear", desc := "(II)I" } : Jvm.MethodName) prog_1_method_15_code (4 : Nat) (Option.some Jvm.ClassFile.FieldType.int)) ∈ gtbl := mg (mm_3 (List.mem_of_getElem? (i := 54) rfl)) rfl
set_option maxRecDepth 20000 in
theorem m_3_55 : (Jvm.Cond.methodLink "DrawerGloves" (201 : Nat) ({ cls := "DrawerGloves$Drawer", name := "isInside", desc := "(I)Z" } : Jvm.MethodName)) ∈ gtbl := mg (mm_3 (List.mem_of_getElem? (i := 55) rfl)) rfl
set_option maxRecDepth 20000 in
theorem m_3_56 : (Jvm.Cond.methodLink "DrawerGloves" (208 : Nat) ({ cls := "DrawerGloves$Deeds", name := "roomLeft", desc := "()I" } : Jvm.MethodName)) ∈ gtbl := mg (mm_3 (List.mem_of_getElem? (i := 56) rfl)) rfl
set_option maxRecDepth 20000 in
theorem m_3_57 : (Jvm.Cond.instanceMethod ({ cls := "DrawerGloves$Deeds", name := "roomLeft", desc := "()I" } : Jvm.MethodName)) ∈ gtbl := mg (mm_3 (List.mem_of_getElem? (i := 57) rfl)) rfl
set_option maxRecDepth 20000 in
theorem m_3_58 : (Jvm.Cond.selects "DrawerGloves$Deeds" ({ cls := "DrawerGloves$Deeds", name := "roomLeft", desc := "()I" } : Jvm.MethodName) ({ cls := "DrawerGloves$Deeds", name := "roomLeft", desc := "()I" } : Jvm.MethodName)) ∈ gtbl := mg (mm_3 (List.mem_of_getElem? (i := 58) rfl)) rfl
set_option maxRecDepth 20000 in
theorem m_3_59 : (Jvm.Cond.code ({ cls := "DrawerGloves$Deeds", name := "roomLeft", desc := "()I" } : Jvm.MethodName) prog_4_method_2_code (1 : Nat) (Option.some Jvm.ClassFile.FieldType.int)) ∈ gtbl := mg (mm_3 (List.mem_of_getElem? (i := 59) rfl)) rfl
set_option maxRecDepth 20000 in
theorem m_3_60 : (Jvm.Cond.methodLink "DrawerGloves" (211 : Nat) ({ cls := "DrawerGloves$Drawer", name := "act", desc := "(III)V" } : Jvm.MethodName)) ∈ gtbl := mg (mm_3 (List.mem_of_getElem? (i := 60) rfl)) rfl
set_option maxRecDepth 20000 in
theorem m_3_61 : (Jvm.Cond.instanceMethod ({ cls := "DrawerGloves$Drawer", name := "act", desc := "(III)V" } : Jvm.MethodName)) ∈ gtbl := mg (mm_3 (List.mem_of_getElem? (i := 61) rfl)) rfl
set_option maxRecDepth 20000 in
theorem m_3_62 : (Jvm.Cond.selects "DrawerGloves$Drawer" ({ cls := "DrawerGloves$Drawer", name := "act", desc := "(III)V" } : Jvm.MethodName) ({ cls := "DrawerGloves$Drawer", name := "act", desc := "(III)V" } : Jvm.MethodName)) ∈ gtbl := mg (mm_3 (List.mem_of_getElem? (i := 62) rfl)) rfl
set_option maxRecDepth 20000 in
theorem m_3_63 : (Jvm.Cond.code ({ cls := "DrawerGloves$Drawer", name := "act", desc := "(III)V" } : Jvm.MethodName) prog_5_method_14_code (4 : Nat) (Option.none : Option Jvm.ClassFile.FieldType)) ∈ gtbl := mg (mm_3 (List.mem_of_getElem? (i := 63) rfl)) rfl
set_option maxRecDepth 20000 in
theorem m_3_64 : (Jvm.Cond.methodLink "DrawerGloves$Drawer" (94 : Nat) ({ cls := "DrawerGloves$Deeds", name := "add", desc := "(III)V" } : Jvm.MethodName)) ∈ gtbl := mg (mm_3 (List.mem_of_getElem? (i := 64) rfl)) rfl
set_option maxRecDepth 20000 in
theorem m_3_65 : (Jvm.Cond.instanceMethod ({ cls := "DrawerGloves$Deeds", name := "add", desc := "(III)V" } : Jvm.MethodName)) ∈ gtbl := mg (mm_3 (List.mem_of_getElem? (i := 65) rfl)) rfl
set_option maxRecDepth 20000 in
theorem m_3_66 : (Jvm.Cond.selects "DrawerGloves$Deeds" ({ cls := "DrawerGloves$Deeds", name := "add", desc := "(III)V" } : Jvm.MethodName) ({ cls := "DrawerGloves$Deeds", name := "add", desc := "(III)V" } : Jvm.MethodName)) ∈ gtbl := mg (mm_3 (List.mem_of_getElem? (i := 66) rfl)) rfl
set_option maxRecDepth 20000 in
theorem m_3_67 : (Jvm.Cond.code ({ cls := "DrawerGloves$Deeds", name := "add", desc := "(III)V" } : Jvm.MethodName) prog_4_method_3_code (4 : Nat) (Option.none : Option Jvm.ClassFile.FieldType)) ∈ gtbl := mg (mm_3 (List.mem_of_getElem? (i := 67) rfl)) rfl
set_option maxRecDepth 20000 in
theorem m_3_68 : (Jvm.Cond.methodLink "DrawerGlovesLaw" (73 : Nat) ({ cls := "DrawerGloves", name := "lose", desc := "(I)I" } : Jvm.MethodName)) ∈ gtbl := mg (mm_3 (List.mem_of_getElem? (i := 68) rfl)) rfl
set_option maxRecDepth 20000 in
theorem m_3_69 : (Jvm.Cond.instanceMethod ({ cls := "DrawerGloves", name := "lose", desc := "(I)I" } : Jvm.MethodName)) ∈ gtbl := mg (mm_3 (List.mem_of_getElem? (i := 69) rfl)) rfl
set_option maxRecDepth 20000 in
theorem m_3_70 : (Jvm.Cond.selects "DrawerGloves" ({ cls := "DrawerGloves", name := "lose", desc := "(I)I" } : Jvm.MethodName) ({ cls := "DrawerGloves", name := "lose", desc := "(I)I" } : Jvm.MethodName)) ∈ gtbl := mg (mm_3 (List.mem_of_getElem? (i := 70) rfl)) rfl
set_option maxRecDepth 20000 in
theorem m_3_71 : (Jvm.Cond.code ({ cls := "DrawerGloves", name := "lose", desc := "(I)I" } : Jvm.MethodName) prog_1_method_16_code (2 : Nat) (Option.some Jvm.ClassFile.FieldType.int)) ∈ gtbl := mg (mm_3 (List.mem_of_getElem? (i := 71) rfl)) rfl
set_option maxRecDepth 20000 in
theorem m_3_72 : (Jvm.Cond.methodLink "DrawerGloves" (214 : Nat) ({ cls := "DrawerGloves$Drawer", name := "canBeLost", desc := "(I)Z" } : Jvm.MethodName)) ∈ gtbl := mg (mm_3 (List.mem_of_getElem? (i := 72) rfl)) rfl
set_option maxRecDepth 20000 in
theorem m_3_73 : (Jvm.Cond.instanceMethod ({ cls := "DrawerGloves$Drawer", name := "canBeLost", desc := "(I)Z" } : Jvm.MethodName)) ∈ gtbl := mg (mm_3 (List.mem_of_getElem? (i := 73) rfl)) rfl
set_option maxRecDepth 20000 in
theorem m_3_74 : (Jvm.Cond.selects "DrawerGloves$Drawer" ({ cls := "DrawerGloves$Drawer", name := "canBeLost", desc := "(I)Z" } : Jvm.MethodName) ({ cls := "DrawerGloves$Drawer", name := "canBeLost", desc := "(I)Z" } : Jvm.MethodName)) ∈ gtbl := mg (mm_3 (List.mem_of_getElem? (i := 74) rfl)) rfl
set_option maxRecDepth 20000 in
theorem m_3_75 : (Jvm.Cond.code ({ cls := "DrawerGloves$Drawer", name := "canBeLost", desc := "(I)Z" } : Jvm.MethodName) prog_5_method_6_code (2 : Nat) (Option.some Jvm.ClassFile.FieldType.boolean)) ∈ gtbl := mg (mm_3 (List.mem_of_getElem? (i := 75) rfl)) rfl
set_option maxRecDepth 20000 in
theorem m_3_76 : (Jvm.Cond.methodLink "DrawerGloves" (217 : Nat) ({ cls := "DrawerGloves$Drawer", name := "howManyInside", desc := "()I" } : Jvm.MethodName)) ∈ gtbl := mg (mm_3 (List.mem_of_getElem? (i := 76) rfl)) rfl
set_option maxRecDepth 20000 in
theorem m_3_77 : (Jvm.Cond.instanceMethod ({ cls := "DrawerGloves$Drawer", name := "howManyInside", desc := "()I" } : Jvm.MethodName)) ∈ gtbl := mg (mm_3 (List.mem_of_getElem? (i := 77) rfl)) rfl
set_option maxRecDepth 20000 in
theorem m_3_78 : (Jvm.Cond.selects "DrawerGloves$Drawer" ({ cls := "DrawerGloves$Drawer", name := "howManyInside", desc := "()I" } : Jvm.MethodName) ({ cls := "DrawerGloves$Drawer", name := "howManyInside", desc := "()I" } : Jvm.MethodName)) ∈ gtbl := mg (mm_3 (List.mem_of_getElem? (i := 78) rfl)) rfl
set_option maxRecDepth 20000 in
theorem m_3_79 : (Jvm.Cond.code ({ cls := "DrawerGloves$Drawer", name := "howManyInside", desc := "()I" } : Jvm.MethodName) prog_5_method_8_code (1 : Nat) (Option.some Jvm.ClassFile.FieldType.int)) ∈ gtbl := mg (mm_3 (List.mem_of_getElem? (i := 79) rfl)) rfl
set_option maxRecDepth 20000 in
theorem m_3_80 : (Jvm.Cond.methodLink "DrawerGloves$Drawer" (71 : Nat) ({ cls := "DrawerGloves$Drawer", name := "setOf", desc := "(I)I" } : Jvm.MethodName)) ∈ gtbl := mg (mm_3 (List.mem_of_getElem? (i := 80) rfl)) rfl
set_option maxRecDepth 20000 in
theorem m_3_81 : (Jvm.Cond.instanceMethod ({ cls := "DrawerGloves$Drawer", name := "setOf", desc := "(I)I" } : Jvm.MethodName)) ∈ gtbl := mg (mm_3 (List.mem_of_getElem? (i := 81) rfl)) rfl
set_option maxRecDepth 20000 in
theorem m_3_82 : (Jvm.Cond.selects "DrawerGloves$Drawer" ({ cls := "DrawerGloves$Drawer", name := "setOf", desc := "(I)I" } : Jvm.MethodName) ({ cls := "DrawerGloves$Drawer", name := "setOf", desc := "(I)I" } : Jvm.MethodName)) ∈ gtbl := mg (mm_3 (List.mem_of_getElem? (i := 82) rfl)) rfl
set_option maxRecDepth 20000 in
theorem m_3_83 : (Jvm.Cond.code ({ cls := "DrawerGloves$Drawer", name := "setOf", desc := "(I)I" } : Jvm.MethodName) prog_5_method_7_code (4 : Nat) (Option.some Jvm.ClassFile.FieldType.int)) ∈ gtbl := mg (mm_3 (List.mem_of_getElem? (i := 83) rfl)) rfl
set_option maxRecDepth 20000 in
theorem m_3_84 : (Jvm.Cond.methodLink "DrawerGloves$Drawer" (75 : Nat) ({ cls := "java/lang/Integer", name := "bitCount", desc := "(I)I" } : Jvm.MethodName)) ∈ gtbl := mg (mm_3 (List.mem_of_getElem? (i := 84) rfl)) rfl
set_option maxRecDepth 20000 in
theorem m_3_85 : (Jvm.Cond.static ({ cls := "java/lang/Integer", name := "bitCount", desc := "(I)I" } : Jvm.MethodName)) ∈ gtbl := mg (mm_3 (List.mem_of_getElem? (i := 85) rfl)) rfl
set_option maxRecDepth 20000 in
theorem m_3_86 : (Jvm.Cond.code ({ cls := "java/lang/Integer", name := "bitCount", desc := "(I)I" } : Jvm.MethodName) prog_14_method_49_code (1 : Nat) (Option.some Jvm.ClassFile.FieldType.int)) ∈ gtbl := mg (mm_3 (List.mem_of_getElem? (i := 86) rfl)) rfl
set_option maxRecDepth 20000 in
theorem m_3_87 : (Jvm.Cond.constant "java/lang/Integer" (265 : Nat) (1431655765 : Int32)) ∈ gtbl := mg (mm_3 (List.mem_of_getElem? (i := 87) rfl)) rfl
set_option maxRecDepth 20000 in
theorem m_3_88 : (Jvm.Cond.constant "java/lang/Integer" (266 : Nat) (858993459 : Int32)) ∈ gtbl := mg (mm_3 (List.mem_of_getElem? (i := 88) rfl)) rfl
set_option maxRecDepth 20000 in
theorem m_3_89 : (Jvm.Cond.constant "java/lang/Integer" (267 : Nat) (252645135 : Int32)) ∈ gtbl := mg (mm_3 (List.mem_of_getElem? (i := 89) rfl)) rfl
set_option maxRecDepth 20000 in
theorem m_3_90 : (Jvm.Cond.methodLink "DrawerGlovesLaw" (77 : Nat) ({ cls := "DrawerGloves", name := "back", desc := "(I)I" } : Jvm.MethodName)) ∈ gtbl := mg (mm_3 (List.mem_of_getElem? (i := 90) rfl)) rfl
set_option maxRecDepth 20000 in
theorem m_3_91 : (Jvm.Cond.instanceMethod ({ cls := "DrawerGloves", name := "back", desc := "(I)I" } : Jvm.MethodName)) ∈ gtbl := mg (mm_3 (List.mem_of_getElem? (i := 91) rfl)) rfl
set_option maxRecDepth 20000 in
theorem m_3_92 : (Jvm.Cond.selects "DrawerGloves" ({ cls := "DrawerGloves", name := "back", desc := "(I)I" } : Jvm.MethodName) ({ cls := "DrawerGloves", name := "back", desc := "(I)I" } : Jvm.MethodName)) ∈ gtbl := mg (mm_3 (List.mem_of_getElem? (i := 92) rfl)) rfl
set_option maxRecDepth 20000 in
theorem m_3_93 : (Jvm.Cond.code ({ cls := "DrawerGloves", name := "back", desc := "(I)I" } : Jvm.MethodName) prog_1_method_17_code (2 : Nat) (Option.some Jvm.ClassFile.FieldType.int)) ∈ gtbl := mg (mm_3 (List.mem_of_getElem? (i := 93) rfl)) rfl
set_option maxRecDepth 20000 in
theorem m_3_94 : (Jvm.Cond.methodLink "DrawerGloves" (223 : Nat) ({ cls := "DrawerGloves$Drawer", name := "hasRoom", desc := "()Z" } : Jvm.MethodName)) ∈ gtbl := mg (mm_3 (List.mem_of_getElem? (i := 94) rfl)) rfl
set_option maxRecDepth 20000 in
theorem m_3_95 : (Jvm.Cond.instanceMethod ({ cls := "DrawerGloves$Drawer", name := "hasRoom", desc := "()Z" } : Jvm.MethodName)) ∈ gtbl := mg (mm_3 (List.mem_of_getElem? (i := 95) rfl)) rfl
set_option maxRecDepth 20000 in
theorem m_3_96 : (Jvm.Cond.selects "DrawerGloves$Drawer" ({ cls := "DrawerGloves$Drawer", name := "hasRoom", desc := "()Z" } : Jvm.MethodName) ({ cls := "DrawerGloves$Drawer", name := "hasRoom", desc := "()Z" } : Jvm.MethodName)) ∈ gtbl := mg (mm_3 (List.mem_of_getElem? (i := 96) rfl)) rfl
set_option maxRecDepth 20000 in
theorem m_3_97 : (Jvm.Cond.code ({ cls := "DrawerGloves$Drawer", name := "hasRoom", desc := "()Z" } : Jvm.MethodName) prog_5_method_9_code (1 : Nat) (Option.some Jvm.ClassFile.FieldType.boolean)) ∈ gtbl := mg (mm_3 (List.mem_of_getElem? (i := 97) rfl)) rfl
set_option maxRecDepth 20000 in
theorem m_3_98 : (Jvm.Cond.methodLink "DrawerGloves$Drawer" (80 : Nat) ({ cls := "DrawerGloves$Drawer", name := "howManyInside", desc := "()I" } : Jvm.MethodName)) ∈ gtbl := mg (mm_3 (List.mem_of_getElem? (i := 98) rfl)) rfl
set_option maxRecDepth 20000 in
theorem m_3_99 : (Jvm.Cond.methodLink "DrawerGlovesLaw" (81 : Nat) ({ cls := "DrawerGloves", name := "out", desc := "(I)I" } : Jvm.MethodName)) ∈ gtbl := mg (mm_3 (List.mem_of_getElem? (i := 99) rfl)) rfl
set_option maxRecDepth 20000 in
theorem m_3_100 : (Jvm.Cond.instanceMethod ({ cls := "DrawerGloves", name := "out", desc := "(I)I" } : Jvm.MethodName)) ∈ gtbl := mg (mm_3 (List.mem_of_getElem? (i := 100) rfl)) rfl
set_option maxRecDepth 20000 in
theorem m_3_101 : (Jvm.Cond.selects "DrawerGloves" ({ cls := "DrawerGloves", name := "out", desc := "(I)I" } : Jvm.MethodName) ({ cls := "DrawerGloves", name := "out", desc := "(I)I" } : Jvm.MethodName)) ∈ gtbl := mg (mm_3 (List.mem_of_getElem? (i := 101) rfl)) rfl
set_option maxRecDepth 20000 in
theorem m_3_102 : (Jvm.Cond.code ({ cls := "DrawerGloves", name := "out", desc := "(I)I" } : Jvm.MethodName) prog_1_method_18_code (2 : Nat) (Option.some Jvm.ClassFile.FieldType.int)) ∈ gtbl := mg (mm_3 (List.mem_of_getElem? (i := 102) rfl)) rfl
set_option maxRecDepth 20000 in
theorem m_3_103 : (Jvm.Cond.methodLink "DrawerGlovesLaw" (85 : Nat) ({ cls := "DrawerGloves", name := "undo", desc := "(I)I" } : Jvm.MethodName)) ∈ gtbl := mg (mm_3 (List.mem_of_getElem? (i := 103) rfl)) rfl
set_option maxRecDepth 20000 in
theorem m_3_104 : (Jvm.Cond.instanceMethod ({ cls := "DrawerGloves", name := "undo", desc := "(I)I" } : Jvm.MethodName)) ∈ gtbl := mg (mm_3 (List.mem_of_getElem? (i := 104) rfl)) rfl
set_option maxRecDepth 20000 in
theorem m_3_105 : (Jvm.Cond.selects "DrawerGloves" ({ cls := "DrawerGloves", name := "undo", desc := "(I)I" } : Jvm.MethodName) ({ cls := "DrawerGloves", name := "undo", desc := "(I)I" } : Jvm.MethodName)) ∈ gtbl := mg (mm_3 (List.mem_of_getElem? (i := 105) rfl)) rfl
set_option maxRecDepth 20000 in
theorem m_3_106 : (Jvm.Cond.code ({ cls := "DrawerGloves", name := "undo", desc := "(I)I" } : Jvm.MethodName) prog_1_method_19_code (3 : Nat) (Option.some Jvm.ClassFile.FieldType.int)) ∈ gtbl := mg (mm_3 (List.mem_of_getElem? (i := 106) rfl)) rfl
set_option maxRecDepth 20000 in
theorem m_3_107 : (Jvm.Cond.methodLink "DrawerGloves" (227 : Nat) ({ cls := "DrawerGloves$Drawer", name := "replay", desc := "()V" } : Jvm.MethodName)) ∈ gtbl := mg (mm_3 (List.mem_of_getElem? (i := 107) rfl)) rfl
set_option maxRecDepth 20000 in
theorem m_3_108 : (Jvm.Cond.methodLink "DrawerGlovesLaw" (89 : Nat) ({ cls := "DrawerGloves", name := "keep", desc := "(I)I" } : Jvm.MethodName)) ∈ gtbl := mg (mm_3 (List.mem_of_getElem? (i := 108) rfl)) rfl
set_option maxRecDepth 20000 in
theorem m_3_109 : (Jvm.Cond.instanceMethod ({ cls := "DrawerGloves", name := "keep", desc := "(I)I" } : Jvm.MethodName)) ∈ gtbl := mg (mm_3 (List.mem_of_getElem? (i := 109) rfl)) rfl
set_option maxRecDepth 20000 in
theorem m_3_110 : (Jvm.Cond.selects "DrawerGloves" ({ cls := "DrawerGloves", name := "keep", desc := "(I)I" } : Jvm.MethodName) ({ cls := "DrawerGloves", name := "keep", desc := "(I)I" } : Jvm.MethodName)) ∈ gtbl := mg (mm_3 (List.mem_of_getElem? (i := 110) rfl)) rfl
set_option maxRecDepth 20000 in
theorem m_3_111 : (Jvm.Cond.code ({ cls := "DrawerGloves", name := "keep", desc := "(I)I" } : Jvm.MethodName) prog_1_method_20_code (2 : Nat) (Option.some Jvm.ClassFile.FieldType.int)) ∈ gtbl := mg (mm_3 (List.mem_of_getElem? (i := 111) rfl)) rfl
set_option maxRecDepth 20000 in
theorem m_3_112 : (Jvm.Cond.methodLink "DrawerGloves" (230 : Nat) ({ cls := "DrawerGloves$Deeds", name := "becomeLike", desc := "(LDrawerGloves$Deeds;)V" } : Jvm.MethodName)) ∈ gtbl := mg (mm_3 (List.mem_of_getElem? (i := 112) rfl)) rfl
set_option maxRecDepth 20000 in
theorem m_3_113 : (Jvm.Cond.instanceMethod ({ cls := "DrawerGloves$Deeds", name := "becomeLike", desc := "(LDrawerGloves$Deeds;)V" } : Jvm.MethodName)) ∈ gtbl := mg (mm_3 (List.mem_of_getElem? (i := 113) rfl)) rfl
set_option maxRecDepth 20000 in
theorem m_3_114 : (Jvm.Cond.selects "DrawerGloves$Deeds" ({ cls := "DrawerGloves$Deeds", name := "becomeLike", desc := "(LDrawerGloves$Deeds;)V" } : Jvm.MethodName) ({ cls := "DrawerGloves$Deeds", name := "becomeLike", desc := "(LDrawerGloves$Deeds;)V" } : Jvm.MethodName)) ∈ gtbl := mg (mm_3 (List.mem_of_getElem? (i := 114) rfl)) rfl
set_option maxRecDepth 20000 in
theorem m_3_115 : (Jvm.Cond.code ({ cls := "DrawerGloves$Deeds", name := "becomeLike", desc := "(LDrawerGloves$Deeds;)V" } : Jvm.MethodName) prog_4_method_4_code (3 : Nat) (Option.none : Option Jvm.ClassFile.FieldType)) ∈ gtbl := mg (mm_3 (List.mem_of_getElem? (i := 115) rfl)) rfl
set_option maxRecDepth 20000 in
theorem m_3_116 : (Jvm.Cond.methodLink "DrawerGlovesLaw" (93 : Nat) ({ cls := "DrawerGloves", name := "on", desc := "(I)I" } : Jvm.MethodName)) ∈ gtbl := mg (mm_3 (List.mem_of_getElem? (i := 116) rfl)) rfl
set_option maxRecDepth 20000 in
theorem m_3_117 : (Jvm.Cond.instanceMethod ({ cls := "DrawerGloves", name := "on", desc := "(I)I" } : Jvm.MethodName)) ∈ gtbl := mg (mm_3 (List.mem_of_getElem? (i := 117) rfl)) rfl
set_option maxRecDepth 20000 in
theorem m_3_118 : (Jvm.Cond.selects "DrawerGloves" ({ cls := "DrawerGloves", name := "on", desc := "(I)I" } : Jvm.MethodName) ({ cls := "DrawerGloves", name := "on", desc := "(I)I" } : Jvm.MethodName)) ∈ gtbl := mg (mm_3 (List.mem_of_getElem? (i := 118) rfl)) rfl
set_option maxRecDepth 20000 in
theorem m_3_119 : (Jvm.Cond.code ({ cls := "DrawerGloves", name := "on", desc := "(I)I" } : Jvm.MethodName) prog_1_method_21_code (2 : Nat) (Option.some Jvm.ClassFile.FieldType.int)) ∈ gtbl := mg (mm_3 (List.mem_of_getElem? (i := 119) rfl)) rfl
set_option maxRecDepth 20000 in
theorem m_3_120 : (Jvm.Cond.methodLink "DrawerGlovesLaw" (97 : Nat) ({ cls := "DrawerGloves", name := "good", desc := "(I)I" } : Jvm.MethodName)) ∈ gtbl := mg (mm_3 (List.mem_of_getElem? (i := 120) rfl)) rfl
set_option maxRecDepth 20000 in
theorem m_3_121 : (Jvm.Cond.instanceMethod ({ cls := "DrawerGloves", name := "good", desc := "(I)I" } : Jvm.MethodName)) ∈ gtbl := mg (mm_3 (List.mem_of_getElem? (i := 121) rfl)) rfl
set_option maxRecDepth 20000 in
theorem m_3_122 : (Jvm.Cond.selects "DrawerGloves" ({ cls := "DrawerGloves", name := "good", desc := "(I)I" } : Jvm.MethodName) ({ cls := "DrawerGloves", name := "good", desc := "(I)I" } : Jvm.MethodName)) ∈ gtbl := mg (mm_3 (List.mem_of_getElem? (i := 122) rfl)) rfl
set_option maxRecDepth 20000 in
theorem m_3_123 : (Jvm.Cond.code ({ cls := "DrawerGloves", name := "good", desc := "(I)I" } : Jvm.MethodName) prog_1_method_22_code (2 : Nat) (Option.some Jvm.ClassFile.FieldType.int)) ∈ gtbl := mg (mm_3 (List.mem_of_getElem? (i := 123) rfl)) rfl
set_option maxRecDepth 20000 in
theorem m_3_124 : (Jvm.Cond.methodLink "DrawerGloves" (234 : Nat) ({ cls := "DrawerGloves$Drawer", name := "isSet", desc := "(I)Z" } : Jvm.MethodName)) ∈ gtbl := mg (mm_3 (List.mem_of_getElem? (i := 124) rfl)) rfl
set_option maxRecDepth 20000 in
theorem m_3_125 : (Jvm.Cond.instanceMethod ({ cls := "DrawerGloves$Drawer", name := "isSet", desc := "(I)Z" } : Jvm.MethodName)) ∈ gtbl := mg (mm_3 (List.mem_of_getElem? (i := 125) rfl)) rfl
set_option maxRecDepth 20000 in
theorem m_3_126 : (Jvm.Cond.selects "DrawerGloves$Drawer" ({ cls := "DrawerGloves$Drawer", name := "isSet", desc := "(I)Z" } : Jvm.MethodName) ({ cls := "DrawerGloves$Drawer", name := "isSet", desc := "(I)Z" } : Jvm.MethodName)) ∈ gtbl := mg (mm_3 (List.mem_of_getElem? (i := 126) rfl)) rfl
set_option maxRecDepth 20000 in
theorem m_3_127 : (Jvm.Cond.code ({ cls := "DrawerGloves$Drawer", name := "isSet", desc := "(I)Z" } : Jvm.MethodName) prog_5_method_4_code (2 : Nat) (Option.some Jvm.ClassFile.FieldType.boolean)) ∈ gtbl := mg (mm_3 (List.mem_of_getElem? (i := 127) rfl)) rfl
set_option maxRecDepth 20000 in
theorem m_3_128 : (Jvm.Cond.methodLink "DrawerGloves" (237 : Nat) ({ cls := "DrawerGloves$Makings", name := "weigh", desc := "(LDrawerGloves$Drawer;)V" } : Jvm.MethodName)) ∈ gtbl := mg (mm_3 (List.mem_of_getElem? (i := 128) rfl)) rfl
set_option maxRecDepth 20000 in
theorem m_3_129 : (Jvm.Cond.instanceMethod ({ cls := "DrawerGloves$Makings", name := "weigh", desc := "(LDrawerGloves$Drawer;)V" } : Jvm.MethodName)) ∈ gtbl := mg (mm_3 (List.mem_of_getElem? (i := 129) rfl)) rfl
set_option maxRecDepth 20000 in
theorem m_3_130 : (Jvm.Cond.selects "DrawerGloves$Makings" ({ cls := "DrawerGloves$Makings", name := "weigh", desc := "(LDrawerGloves$Drawer;)V" } : Jvm.MethodName) ({ cls := "DrawerGloves$Makings", name := "weigh", desc := "(LDrawerGloves$Drawer;)V" } : Jvm.MethodName)) ∈ gtbl := mg (mm_3 (List.mem_of_getElem? (i := 130) rfl)) rfl
set_option maxRecDepth 20000 in
theorem m_3_131 : (Jvm.Cond.code ({ cls := "DrawerGloves$Makings", name := "weigh", desc := "(LDrawerGloves$Drawer;)V" } : Jvm.MethodName) prog_8_method_2_code (4 : Nat) (Option.none : Option Jvm.ClassFile.FieldType)) ∈ gtbl := mg (mm_3 (List.mem_of_getElem? (i := 131) rfl)) rfl
set_option maxRecDepth 20000 in
theorem m_3_132 : (Jvm.Cond.methodLink "DrawerGloves$Makings" (34 : Nat) ({ cls := "DrawerGloves$Glove", name := "goodWith", desc := "(LDrawerGloves$Glove;)I" } : Jvm.MethodName)) ∈ gtbl := mg (mm_3 (List.mem_of_getElem? (i := 132) rfl)) rfl
set_option maxRecDepth 20000 in
theorem m_3_133 : (Jvm.Cond.methodLink "DrawerGloves$Makings" (40 : Nat) ({ cls := "DrawerGloves$Makings", name := "weighWith", desc := "(II)V" } : Jvm.MethodName)) ∈ gtbl := mg (mm_3 (List.mem_of_getElem? (i := 133) rfl)) rfl
set_option maxRecDepth 20000 in
theorem m_3_135 : (Jvm.Cond.instanceMethod ({ cls := "DrawerGloves$Makings", name := "weighWith", desc := "(II)V" } : Jvm.MethodName)) ∈ gtbl := mg (mm_3 (List.mem_of_getElem? (i := 135) rfl)) rfl
set_option maxRecDepth 20000 in
theorem m_3_136 : (Jvm.Cond.code ({ cls := "DrawerGloves$Makings", name := "weighWith", desc := "(II)V" } : Jvm.MethodName) prog_8_method_3_code (7 : Nat) (Option.none : Option Jvm.ClassFile.FieldType)) ∈ gtbl := mg (mm_3 (List.mem_of_getElem? (i := 136) rfl)) rfl
set_option maxRecDepth 20000 in
theorem m_3_137 : (Jvm.Cond.methodLink "DrawerGloves$Makings" (44 : Nat) ({ cls := "java/lang/Math", name := "max", desc := "(II)I" } : Jvm.MethodName)) ∈ gtbl := mg (mm_3 (List.mem_of_getElem? (i := 137) rfl)) rfl
set_option maxRecDepth 20000 in
theorem m_3_138 : (Jvm.Cond.methodLink "DrawerGlovesLaw" (101 : Nat) ({ cls := "DrawerGloves", name := "pairs", desc := "(I)I" } : Jvm.MethodName)) ∈ gtbl := mg (mm_3 (List.mem_of_getElem? (i := 138) rfl)) rfl
set_option maxRecDepth 20000 in
theorem m_3_139 : (Jvm.Cond.instanceMethod ({ cls := "DrawerGloves", name := "pairs", desc := "(I)I" } : Jvm.MethodName)) ∈ gtbl := mg (mm_3 (List.mem_of_getElem? (i := 139) rfl)) rfl
set_option maxRecDepth 20000 in
theorem m_3_140 : (Jvm.Cond.selects "DrawerGloves" ({ cls := "DrawerGloves", name := "pairs", desc := "(I)I" } : Jvm.MethodName) ({ cls := "DrawerGloves", name := "pairs", desc := "(I)I" } : Jvm.MethodName)) ∈ gtbl := mg (mm_3 (List.mem_of_getElem? (i := 140) rfl)) rfl
set_option maxRecDepth 20000 in
theorem m_3_141 : (Jvm.Cond.code ({ cls := "DrawerGloves", name := "pairs", desc := "(I)I" } : Jvm.MethodName) prog_1_method_23_code (2 : Nat) (Option.some Jvm.ClassFile.FieldType.int)) ∈ gtbl := mg (mm_3 (List.mem_of_getElem? (i := 141) rfl)) rfl
set_option maxRecDepth 20000 in
theorem m_3_142 : (Jvm.Cond.methodLink "DrawerGloves" (247 : Nat) ({ cls := "DrawerGloves$Makings", name := "partTo", desc := "(LDrawerGloves$Drawer;LDrawerGloves$Rows;I)V" } : Jvm.MethodName)) ∈ gtbl := mg (mm_3 (List.mem_of_getElem? (i := 142) rfl)) rfl
set_option maxRecDepth 20000 in
theorem m_3_143 : (Jvm.Cond.instanceMethod ({ cls := "DrawerGloves$Makings", name := "partTo", desc := "(LDrawerGloves$Drawer;LDrawerGloves$Rows;I)V" } : Jvm.MethodName)) ∈ gtbl := mg (mm_3 (List.mem_of_getElem? (i := 143) rfl)) rfl
set_option maxRecDepth 20000 in
theorem m_3_144 : (Jvm.Cond.selects "DrawerGloves$Makings" ({ cls := "DrawerGloves$Makings", name := "partTo", desc := "(LDrawerGloves$Drawer;LDrawerGloves$Rows;I)V" } : Jvm.MethodName) ({ cls := "DrawerGloves$Makings", name := "partTo", desc := "(LDrawerGloves$Drawer;LDrawerGloves$Rows;I)V" } : Jvm.MethodName)) ∈ gtbl := mg (mm_3 (List.mem_of_getElem? (i := 144) rfl)) rfl
set_option maxRecDepth 20000 in
theorem m_3_145 : (Jvm.Cond.code ({ cls := "DrawerGloves$Makings", name := "partTo", desc := "(LDrawerGloves$Drawer;LDrawerGloves$Rows;I)V" } : Jvm.MethodName) prog_8_method_4_code (7 : Nat) (Option.none : Option Jvm.ClassFile.FieldType)) ∈ gtbl := mg (mm_3 (List.mem_of_getElem? (i := 145) rfl)) rfl
set_option maxRecDepth 20000 in
theorem m_3_146 : (Jvm.Cond.methodLink "DrawerGloves$Makings" (50 : Nat) ({ cls := "DrawerGloves$Rows", name := "begin", desc := "(II)V" } : Jvm.MethodName)) ∈ gtbl := mg (mm_3 (List.mem_of_getElem? (i := 146) rfl)) rfl
set_option maxRecDepth 20000 in
theorem m_3_147 : (Jvm.Cond.methodLink "DrawerGloves$Makings" (55 : Nat) ({ cls := "DrawerGloves$Rows", name := "write", desc := "(III)V" } : Jvm.MethodName)) ∈ gtbl := mg (mm_3 (List.mem_of_getElem? (i := 147) rfl)) rfl
set_option maxRecDepth 20000 in
theorem m_3_148 : (Jvm.Cond.methodLink "DrawerGloves$Makings" (59 : Nat) ({ cls := "DrawerGloves$Drawer", name := "setOf", desc := "(I)I" } : Jvm.MethodName)) ∈ gtbl := mg (mm_3 (List.mem_of_getElem? (i := 148) rfl)) rfl
set_option maxRecDepth 20000 in
theorem m_3_149 : (Jvm.Cond.methodLink "DrawerGloves$Makings" (63 : Nat) ({ cls := "DrawerGloves$Makings", name := "firstMate", desc := "(LDrawerGloves$Drawer;II)I" } : Jvm.MethodName)) ∈ gtbl := mg (mm_3 (List.mem_of_getElem? (i := 149) rfl)) rfl
set_option maxRecDepth 20000 in
theorem m_3_151 : (Jvm.Cond.instanceMethod ({ cls := "DrawerGloves$Makings", name := "firstMate", desc := "(LDrawerGloves$Drawer;II)I" } : Jvm.MethodName)) ∈ gtbl := mg (mm_3 (List.mem_of_getElem? (i := 151) rfl)) rfl
set_option maxRecDepth 20000 in
theorem m_3_152 : (Jvm.Cond.code ({ cls := "DrawerGloves$Makings", name := "firstMate", desc := "(LDrawerGloves$Drawer;II)I" } : Jvm.MethodName) prog_8_method_5_code (7 : Nat) (Option.some Jvm.ClassFile.FieldType.int)) ∈ gtbl := mg (mm_3 (List.mem_of_getElem? (i := 152) rfl)) rfl
set_option maxRecDepth 20000 in
theorem m_3_153 : (Jvm.Cond.methodLink "DrawerGloves" (251 : Nat) ({ cls := "DrawerGloves$Drawer", name := "setOf", desc := "(I)I" } : Jvm.MethodName)) ∈ gtbl := mg (mm_3 (List.mem_of_getElem? (i := 153) rfl)) rfl
set_option maxRecDepth 20000 in
theorem m_3_154 : (Jvm.Cond.methodLink "DrawerGlovesLaw" (105 : Nat) ({ cls := "DrawerGloves", name := "missed", desc := "()I" } : Jvm.MethodName)) ∈ gtbl := mg (mm_3 (List.mem_of_getElem? (i := 154) rfl)) rfl
set_option maxRecDepth 20000 in
theorem m_3_155 : (Jvm.Cond.instanceMethod ({ cls := "DrawerGloves", name := "missed", desc := "()I" } : Jvm.MethodName)) ∈ gtbl := mg (mm_3 (List.mem_of_getElem? (i := 155) rfl)) rfl
set_option maxRecDepth 20000 in
theorem m_3_156 : (Jvm.Cond.selects "DrawerGloves" ({ cls := "DrawerGloves", name := "missed", desc := "()I" } : Jvm.MethodName) ({ cls := "DrawerGloves", name := "missed", desc := "()I" } : Jvm.MethodName)) ∈ gtbl := mg (mm_3 (List.mem_of_getElem? (i := 156) rfl)) rfl
set_option maxRecDepth 20000 in
theorem m_3_157 : (Jvm.Cond.code ({ cls := "DrawerGloves", name := "missed", desc := "()I" } : Jvm.MethodName) prog_1_method_24_code (1 : Nat) (Option.some Jvm.ClassFile.FieldType.int)) ∈ gtbl := mg (mm_3 (List.mem_of_getElem? (i := 157) rfl)) rfl
set_option maxRecDepth 20000 in
theorem m_3_158 : (Jvm.Cond.methodLink "DrawerGloves" (254 : Nat) ({ cls := "DrawerGloves", name := "greatestChange", desc := "(I)I" } : Jvm.MethodName)) ∈ gtbl := mg (mm_3 (List.mem_of_getElem? (i := 158) rfl)) rfl
set_option maxRecDepth 20000 in
theorem m_3_160 : (Jvm.Cond.instanceMethod ({ cls := "DrawerGloves", name := "greatestChange", desc := "(I)I" } : Jvm.MethodName)) ∈ gtbl := mg (mm_3 (List.mem_of_getElem? (i := 160) rfl)) rfl
set_option maxRecDepth 20000 in
theorem m_3_161 : (Jvm.Cond.code ({ cls := "DrawerGloves", name := "greatestChange", desc := "(I)I" } : Jvm.MethodName) prog_1_method_50_code (7 : Nat) (Option.some Jvm.ClassFile.FieldType.int)) ∈ gtbl := mg (mm_3 (List.mem_of_getElem? (i := 161) rfl)) rfl
set_option maxRecDepth 20000 in
theorem m_3_162 : (Jvm.Cond.methodLink "DrawerGloves" (352 : Nat) ({ cls := "java/lang/Math", name := "abs", desc := "(I)I" } : Jvm.MethodName)) ∈ gtbl := mg (mm_3 (List.mem_of_getElem? (i := 162) rfl)) rfl
set_option maxRecDepth 20000 in
theorem m_3_163 : (Jvm.Cond.methodLink "DrawerGlovesLaw" (110 : Nat) ({ cls := "DrawerGloves", name := "wished", desc := "()I" } : Jvm.MethodName)) ∈ gtbl := mg (mm_3 (List.mem_of_getElem? (i := 163) rfl)) rfl
set_option maxRecDepth 20000 in
theorem m_3_164 : (Jvm.Cond.instanceMethod ({ cls := "DrawerGloves", name := "wished", desc := "()I" } : Jvm.MethodName)) ∈ gtbl := mg (mm_3 (List.mem_of_getElem? (i := 164) rfl)) rfl
set_option maxRecDepth 20000 in
theorem m_3_165 : (Jvm.Cond.selects "DrawerGloves" ({ cls := "DrawerGloves", name := "wished", desc := "()I" } : Jvm.MethodName) ({ cls := "DrawerGloves", name := "wished", desc := "()I" } : Jvm.MethodName)) ∈ gtbl := mg (mm_3 (List.mem_of_getElem? (i := 165) rfl)) rfl
set_option maxRecDepth 20000 in
theorem m_3_166 : (Jvm.Cond.code ({ cls := "DrawerGloves", name := "wished", desc := "()I" } : Jvm.MethodName) prog_1_method_25_code (1 : Nat) (Option.some Jvm.ClassFile.FieldType.int)) ∈ gtbl := mg (mm_3 (List.mem_of_getElem? (i := 166) rfl)) rfl
set_option maxRecDepth 20000 in
theorem m_3_167 : (Jvm.Cond.methodLink "DrawerGlovesLaw" (114 : Nat) ({ cls := "DrawerGloves", name := "days", desc := "(II)I" } : Jvm.MethodName)) ∈ gtbl := mg (mm_3 (List.mem_of_getElem? (i := 167) rfl)) rfl
set_option maxRecDepth 20000 in
theorem m_3_168 : (Jvm.Cond.instanceMethod ({ cls := "DrawerGloves", name := "days", desc := "(II)I" } : Jvm.MethodName)) ∈ gtbl := mg (mm_3 (List.mem_of_getElem? (i := 168) rfl)) rfl
set_option maxRecDepth 20000 in
theorem m_3_169 : (Jvm.Cond.selects "DrawerGloves" ({ cls := "DrawerGloves", name := "days", desc := "(II)I" } : Jvm.MethodName) ({ cls := "DrawerGloves", name := "days", desc := "(II)I" } : Jvm.MethodName)) ∈ gtbl := mg (mm_3 (List.mem_of_getElem? (i := 169) rfl)) rfl
set_option maxRecDepth 20000 in
theorem m_3_170 : (Jvm.Cond.code ({ cls := "DrawerGloves", name := "days", desc := "(II)I" } : Jvm.MethodName) prog_1_method_26_code (3 : Nat) (Option.some Jvm.ClassFile.FieldType.int)) ∈ gtbl := mg (mm_3 (List.mem_of_getElem? (i := 170) rfl)) rfl
set_option maxRecDepth 20000 in
theorem m_3_171 : (Jvm.Cond.methodLink "DrawerGloves" (257 : Nat) ({ cls := "DrawerGloves$Calendar", name := "plan", desc := "(LDrawerGloves$Drawer;ILDrawerGloves$Rows;I)I" } : Jvm.MethodName)) ∈ gtbl := mg (mm_3 (List.mem_of_getElem? (i := 171) rfl)) rfl
set_option maxRecDepth 20000 in
theorem m_3_172 : (Jvm.Cond.instanceMethod ({ cls := "DrawerGloves$Calendar", name := "plan", desc := "(LDrawerGloves$Drawer;ILDrawerGloves$Rows;I)I" } : Jvm.MethodName)) ∈ gtbl := mg (mm_3 (List.mem_of_getElem? (i := 172) rfl)) rfl
set_option maxRecDepth 20000 in
theorem m_3_173 : (Jvm.Cond.selects "DrawerGloves$Calendar" ({ cls := "DrawerGloves$Calendar", name := "plan", desc := "(LDrawerGloves$Drawer;ILDrawerGloves$Rows;I)I" } : Jvm.MethodName) ({ cls := "DrawerGloves$Calendar", name := "plan", desc := "(LDrawerGloves$Drawer;ILDrawerGloves$Rows;I)I" } : Jvm.MethodName)) ∈ gtbl := mg (mm_3 (List.mem_of_getElem? (i := 173) rfl)) rfl
set_option maxRecDepth 20000 in
theorem m_3_174 : (Jvm.Cond.code ({ cls := "DrawerGloves$Calendar", name := "plan", desc := "(LDrawerGloves$Drawer;ILDrawerGloves$Rows;I)I" } : Jvm.MethodName) prog_2_method_2_code (6 : Nat) (Option.some Jvm.ClassFile.FieldType.int)) ∈ gtbl := mg (mm_3 (List.mem_of_getElem? (i := 174) rfl)) rfl
set_option maxRecDepth 20000 in
theorem m_3_175 : (Jvm.Cond.methodLink "DrawerGloves$Calendar" (28 : Nat) ({ cls := "DrawerGloves$Calendar", name := "gather", desc := "(LDrawerGloves$Drawer;)V" } : Jvm.MethodName)) ∈ gtbl := mg (mm_3 (List.mem_of_getElem? (i := 175) rfl)) rfl
set_option maxRecDepth 20000 in
theorem m_3_177 : (Jvm.Cond.instanceMethod ({ cls := "DrawerGloves$Calendar", name := "gather", desc := "(LDrawerGloves$Drawer;)V" } : Jvm.MethodName)) ∈ gtbl := mg (mm_3 (List.mem_of_getElem? (i := 177) rfl)) rfl
set_option maxRecDepth 20000 in
theorem m_3_178 : (Jvm.Cond.code ({ cls := "DrawerGloves$Calendar", name := "gather", desc := "(LDrawerGloves$Drawer;)V" } : Jvm.MethodName) prog_2_method_3_code (5 : Nat) (Option.none : Option Jvm.ClassFile.FieldType)) ∈ gtbl := mg (mm_3 (List.mem_of_getElem? (i := 178) rfl)) rfl
set_option maxRecDepth 20000 in
theorem m_3_179 : (Jvm.Cond.methodLink "DrawerGloves$Calendar" (58 : Nat) ({ cls := "DrawerGloves$Glove", name := "becomeLike", desc := "(LDrawerGloves$Glove;)V" } : Jvm.MethodName)) ∈ gtbl := mg (mm_3 (List.mem_of_getElem? (i := 179) rfl)) rfl
set_option maxRecDepth 20000 in
theorem m_3_180 : (Jvm.Cond.methodLink "DrawerGloves$Calendar" (67 : Nat) ({ cls := "DrawerGloves$Glove", name := "goodWith", desc := "(LDrawerGloves$Glove;)I" } : Jvm.MethodName)) ∈ gtbl := mg (mm_3 (List.mem_of_getElem? (i := 180) rfl)) rfl
set_option maxRecDepth 20000 in
theorem m_3_181 : (Jvm.Cond.methodLink "DrawerGloves$Calendar" (71 : Nat) ({ cls := "DrawerGloves$Drawer", name := "isInside", desc := "(I)Z" } : Jvm.MethodName)) ∈ gtbl := mg (mm_3 (List.mem_of_getElem? (i := 181) rfl)) rfl
set_option maxRecDepth 20000 in
theorem m_3_182 : (Jvm.Cond.methodLink "DrawerGloves$Calendar" (75 : Nat) ({ cls := "java/lang/Math", name := "max", desc := "(II)I" } : Jvm.MethodName)) ∈ gtbl := mg (mm_3 (List.mem_of_getElem? (i := 182) rfl)) rfl
set_option maxRecDepth 20000 in
theorem m_3_183 : (Jvm.Cond.methodLink "DrawerGloves$Calendar" (39 : Nat) ({ cls := "DrawerGloves$Calendar", name := "search", desc := "(LDrawerGloves$Calendar;III)V" } : Jvm.MethodName)) ∈ gtbl := mg (mm_3 (List.mem_of_getElem? (i := 183) rfl)) rfl
set_option maxRecDepth 20000 in
theorem m_3_184 : (Jvm.Cond.static ({ cls := "DrawerGloves$Calendar", name := "search", desc := "(LDrawerGloves$Calendar;III)V" } : Jvm.MethodName)) ∈ gtbl := mg (mm_3 (List.mem_of_getElem? (i := 184) rfl)) rfl
set_option maxRecDepth 20000 in
theorem m_3_185 : (Jvm.Cond.code ({ cls := "DrawerGloves$Calendar", name := "search", desc := "(LDrawerGloves$Calendar;III)V" } : Jvm.MethodName) prog_2_method_4_code (8 : Nat) (Option.none : Option Jvm.ClassFile.FieldType)) ∈ gtbl := mg (mm_3 (List.mem_of_getElem? (i := 185) rfl)) rfl
set_option maxRecDepth 20000 in
theorem m_3_186 : (Jvm.Cond.methodLink "DrawerGloves$Calendar" (43 : Nat) ({ cls := "DrawerGloves$Rows", name := "begin", desc := "(II)V" } : Jvm.MethodName)) ∈ gtbl := mg (mm_3 (List.mem_of_getElem? (i := 186) rfl)) rfl
set_option maxRecDepth 20000 in
theorem m_3_187 : (Jvm.Cond.methodLink "DrawerGloves$Calendar" (49 : Nat) ({ cls := "DrawerGloves$Rows", name := "write", desc := "(III)V" } : Jvm.MethodName)) ∈ gtbl := mg (mm_3 (List.mem_of_getElem? (i := 187) rfl)) rfl
set_option maxRecDepth 20000 in
theorem m_3_188 : (Jvm.Cond.methodLink "DrawerGlovesLaw" (118 : Nat) ({ cls := "DrawerGloves", name := "room", desc := "()I" } : Jvm.MethodName)) ∈ gtbl := mg (mm_3 (List.mem_of_getElem? (i := 188) rfl)) rfl
set_option maxRecDepth 20000 in
theorem m_3_189 : (Jvm.Cond.instanceMethod ({ cls := "DrawerGloves", name := "room", desc := "()I" } : Jvm.MethodName)) ∈ gtbl := mg (mm_3 (List.mem_of_getElem? (i := 189) rfl)) rfl
set_option maxRecDepth 20000 in
theorem m_3_190 : (Jvm.Cond.selects "DrawerGloves" ({ cls := "DrawerGloves", name := "room", desc := "()I" } : Jvm.MethodName) ({ cls := "DrawerGloves", name := "room", desc := "()I" } : Jvm.MethodName)) ∈ gtbl := mg (mm_3 (List.mem_of_getElem? (i := 190) rfl)) rfl
set_option maxRecDepth 20000 in
theorem m_3_191 : (Jvm.Cond.code ({ cls := "DrawerGloves", name := "room", desc := "()I" } : Jvm.MethodName) prog_1_method_27_code (2 : Nat) (Option.some Jvm.ClassFile.FieldType.int)) ∈ gtbl := mg (mm_3 (List.mem_of_getElem? (i := 191) rfl)) rfl
set_option maxRecDepth 20000 in
theorem m_3_192 : (Jvm.Cond.methodLink "DrawerGloves" (261 : Nat) ({ cls := "DrawerGloves$Makings", name := "safestSet", desc := "(LDrawerGloves$Drawer;)I" } : Jvm.MethodName)) ∈ gtbl := mg (mm_3 (List.mem_of_getElem? (i := 192) rfl)) rfl
set_option maxRecDepth 20000 in
theorem m_3_193 : (Jvm.Cond.instanceMethod ({ cls := "DrawerGloves$Makings", name := "safestSet", desc := "(LDrawerGloves$Drawer;)I" } : Jvm.MethodName)) ∈ gtbl := mg (mm_3 (List.mem_of_getElem? (i := 193) rfl)) rfl
set_option maxRecDepth 20000 in
theorem m_3_194 : (Jvm.Cond.selects "DrawerGloves$Makings" ({ cls := "DrawerGloves$Makings", name := "safestSet", desc := "(LDrawerGloves$Drawer;)I" } : Jvm.MethodName) ({ cls := "DrawerGloves$Makings", name := "safestSet", desc := "(LDrawerGloves$Drawer;)I" } : Jvm.MethodName)) ∈ gtbl := mg (mm_3 (List.mem_of_getElem? (i := 194) rfl)) rfl
set_option maxRecDepth 20000 in
theorem m_3_195 : (Jvm.Cond.code ({ cls := "DrawerGloves$Makings", name := "safestSet", desc := "(LDrawerGloves$Drawer;)I" } : Jvm.MethodName) prog_8_method_6_code (6 : Nat) (Option.some Jvm.ClassFile.FieldType.int)) ∈ gtbl := mg (mm_3 (List.mem_of_getElem? (i := 195) rfl)) rfl
set_option maxRecDepth 20000 in
theorem m_3_196 : (Jvm.Cond.methodLink "DrawerGloves$Makings" (67 : Nat) ({ cls := "java/lang/Integer", name := "bitCount", desc := "(I)I" } : Jvm.MethodName)) ∈ gtbl := mg (mm_3 (List.mem_of_getElem? (i := 196) rfl)) rfl
set_option maxRecDepth 20000 in
theorem m_3_197 : (Jvm.Cond.methodLink "DrawerGloves$Makings" (75 : Nat) ({ cls := "DrawerGloves$Makings", name := "isSafer", desc := "(LDrawerGloves$Drawer;II)Z" } : Jvm.MethodName)) ∈ gtbl := mg (mm_3 (List.mem_of_getElem? (i := 197) rfl)) rfl
set_option maxRecDepth 20000 in
theorem m_3_199 : (Jvm.Cond.instanceMethod ({ cls := "DrawerGloves$Makings", name := "isSafer", desc := "(LDrawerGloves$Drawer;II)Z" } : Jvm.MethodName)) ∈ gtbl := mg (mm_3 (List.mem_of_getElem? (i := 199) rfl)) rfl
set_option maxRecDepth 20000 in
theorem m_3_200 : (Jvm.Cond.code ({ cls := "DrawerGloves$Makings", name := "isSafer", desc := "(LDrawerGloves$Drawer;II)Z" } : Jvm.MethodName) prog_8_method_7_code (6 : Nat) (Option.some Jvm.ClassFile.FieldType.boolean)) ∈ gtbl := mg (mm_3 (List.mem_of_getElem? (i := 200) rfl)) rfl
set_option maxRecDepth 20000 in
theorem m_3_201 : (Jvm.Cond.methodLink "DrawerGloves$Makings" (79 : Nat) ({ cls := "DrawerGloves$Makings", name := "afterWorstLoss", desc := "(LDrawerGloves$Drawer;I)I" } : Jvm.MethodName)) ∈ gtbl := mg (mm_3 (List.mem_of_getElem? (i := 201) rfl)) rfl
set_option maxRecDepth 20000 in
theorem m_3_202 : (Jvm.Cond.instanceMethod ({ cls := "DrawerGloves$Makings", name := "afterWorstLoss", desc := "(LDrawerGloves$Drawer;I)I" } : Jvm.MethodName)) ∈ gtbl := mg (mm_3 (List.mem_of_getElem? (i := 202) rfl)) rfl
set_option maxRecDepth 20000 in
theorem m_3_203 : (Jvm.Cond.selects "DrawerGloves$Makings" ({ cls := "DrawerGloves$Makings", name := "afterWorstLoss", desc := "(LDrawerGloves$Drawer;I)I" } : Jvm.MethodName) ({ cls := "DrawerGloves$Makings", name := "afterWorstLoss", desc := "(LDrawerGloves$Drawer;I)I" } : Jvm.MethodName)) ∈ gtbl := mg (mm_3 (List.mem_of_getElem? (i := 203) rfl)) rfl
set_option maxRecDepth 20000 in
theorem m_3_204 : (Jvm.Cond.code ({ cls := "DrawerGloves$Makings", name := "afterWorstLoss", desc := "(LDrawerGloves$Drawer;I)I" } : Jvm.MethodName) prog_8_method_8_code (5 : Nat) (Option.some Jvm.ClassFile.FieldType.int)) ∈ gtbl := mg (mm_3 (List.mem_of_getElem? (i := 204) rfl)) rfl
set_option maxRecDepth 20000 in
theorem m_3_205 : (Jvm.Cond.methodLink "DrawerGloves$Makings" (86 : Nat) ({ cls := "java/lang/Math", name := "min", desc := "(II)I" } : Jvm.MethodName)) ∈ gtbl := mg (mm_3 (List.mem_of_getElem? (i := 205) rfl)) rfl
set_option maxRecDepth 20000 in
theorem m_3_206 : (Jvm.Cond.static ({ cls := "java/lang/Math", name := "min", desc := "(II)I" } : Jvm.MethodName)) ∈ gtbl := mg (mm_3 (List.mem_of_getElem? (i := 206) rfl)) rfl
set_option maxRecDepth 20000 in
theorem m_3_207 : (Jvm.Cond.code ({ cls := "java/lang/Math", name := "min", desc := "(II)I" } : Jvm.MethodName) prog_15_method_69_code (2 : Nat) (Option.some Jvm.ClassFile.FieldType.int)) ∈ gtbl := mg (mm_3 (List.mem_of_getElem? (i := 207) rfl)) rfl
set_option maxRecDepth 20000 in
theorem m_3_208 : (Jvm.Cond.methodLink "DrawerGloves" (265 : Nat) ({ cls := "DrawerGloves$Makings", name := "afterWorstLoss", desc := "(LDrawerGloves$Drawer;I)I" } : Jvm.MethodName)) ∈ gtbl := mg (mm_3 (List.mem_of_getElem? (i := 208) rfl)) rfl
set_option maxRecDepth 20000 in
theorem m_3_209 : (Jvm.Cond.methodLink "DrawerGlovesLaw" (122 : Nat) ({ cls := "DrawerGloves", name := "join", desc := "(II)I" } : Jvm.MethodName)) ∈ gtbl := mg (mm_3 (List.mem_of_getElem? (i := 209) rfl)) rfl
set_option maxRecDepth 20000 in
theorem m_3_210 : (Jvm.Cond.instanceMethod ({ cls := "DrawerGloves", name := "join", desc := "(II)I" } : Jvm.MethodName)) ∈ gtbl := mg (mm_3 (List.mem_of_getElem? (i := 210) rfl)) rfl
set_option maxRecDepth 20000 in
theorem m_3_211 : (Jvm.Cond.selects "DrawerGloves" ({ cls := "DrawerGloves", name := "join", desc := "(II)I" } : Jvm.MethodName) ({ cls := "DrawerGloves", name := "join", desc := "(II)I" } : Jvm.MethodName)) ∈ gtbl := mg (mm_3 (List.mem_of_getElem? (i := 211) rfl)) rfl
set_option maxRecDepth 20000 in
theorem m_3_212 : (Jvm.Cond.code ({ cls := "DrawerGloves", name := "join", desc := "(II)I" } : Jvm.MethodName) prog_1_method_28_code (3 : Nat) (Option.some Jvm.ClassFile.FieldType.int)) ∈ gtbl := mg (mm_3 (List.mem_of_getElem? (i := 212) rfl)) rfl
set_option maxRecDepth 20000 in
theorem m_3_213 : (Jvm.Cond.methodLink "DrawerGlovesLaw" (126 : Nat) ({ cls := "DrawerGloves", name := "sorts", desc := "(II)I" } : Jvm.MethodName)) ∈ gtbl := mg (mm_3 (List.mem_of_getElem? (i := 213) rfl)) rfl
set_option maxRecDepth 20000 in
theorem m_3_214 : (Jvm.Cond.instanceMethod ({ cls := "DrawerGloves", name := "sorts", desc := "(II)I" } : Jvm.MethodName)) ∈ gtbl := mg (mm_3 (List.mem_of_getElem? (i := 214) rfl)) rfl
set_option maxRecDepth 20000 in
theorem m_3_215 : (Jvm.Cond.selects "DrawerGloves" ({ cls := "DrawerGloves", name := "sorts", desc := "(II)I" } : Jvm.MethodName) ({ cls := "DrawerGloves", name := "sorts", desc := "(II)I" } : Jvm.MethodName)) ∈ gtbl := mg (mm_3 (List.mem_of_getElem? (i := 215) rfl)) rfl
set_option maxRecDepth 20000 in
theorem m_3_216 : (Jvm.Cond.code ({ cls := "DrawerGloves", name := "sorts", desc := "(II)I" } : Jvm.MethodName) prog_1_method_29_code (4 : Nat) (Option.some Jvm.ClassFile.FieldType.int)) ∈ gtbl := mg (mm_3 (List.mem_of_getElem? (i := 216) rfl)) rfl
set_option maxRecDepth 20000 in
theorem m_3_217 : (Jvm.Cond.methodLink "DrawerGloves" (268 : Nat) ({ cls := "DrawerGloves", name := "refusedGuess", desc := "(II)I" } : Jvm.MethodName)) ∈ gtbl := mg (mm_3 (List.mem_of_getElem? (i := 217) rfl)) rfl
set_option maxRecDepth 20000 in
theorem m_3_219 : (Jvm.Cond.instanceMethod ({ cls := "DrawerGloves", name := "refusedGuess", desc := "(II)I" } : Jvm.MethodName)) ∈ gtbl := mg (mm_3 (List.mem_of_getElem? (i := 219) rfl)) rfl
set_option maxRecDepth 20000 in
theorem m_3_220 : (Jvm.Cond.code ({ cls := "DrawerGloves", name := "refusedGuess", desc := "(II)I" } : Jvm.MethodName) prog_1_method_49_code (4 : Nat) (Option.some Jvm.ClassFile.FieldType.int)) ∈ gtbl := mg (mm_3 (List.mem_of_getElem? (i := 220) rfl)) rfl
set_option maxRecDepth 20000 in
theorem m_3_221 : (Jvm.Cond.methodLink "DrawerGloves" (348 : Nat) ({ cls := "DrawerGloves$Guess", name := "isWellTold", desc := "(LDrawerGloves$Drawer;ILDrawerGloves$Rows;I)Z" } : Jvm.MethodName)) ∈ gtbl := mg (mm_3 (List.mem_of_getElem? (i := 221) rfl)) rfl
set_option maxRecDepth 20000 in
theorem m_3_222 : (Jvm.Cond.instanceMethod ({ cls := "DrawerGloves$Guess", name := "isWellTold", desc := "(LDrawerGloves$Drawer;ILDrawerGloves$Rows;I)Z" } : Jvm.MethodName)) ∈ gtbl := mg (mm_3 (List.mem_of_getElem? (i := 222) rfl)) rfl
set_option maxRecDepth 20000 in
theorem m_3_223 : (Jvm.Cond.selects "DrawerGloves$Guess" ({ cls := "DrawerGloves$Guess", name := "isWellTold", desc := "(LDrawerGloves$Drawer;ILDrawerGloves$Rows;I)Z" } : Jvm.MethodName) ({ cls := "DrawerGloves$Guess", name := "isWellTold", desc := "(LDrawerGloves$Drawer;ILDrawerGloves$Rows;I)Z" } : Jvm.MethodName)) ∈ gtbl := mg (mm_3 (List.mem_of_getElem? (i := 223) rfl)) rfl
set_option maxRecDepth 20000 in
theorem m_3_224 : (Jvm.Cond.code ({ cls := "DrawerGloves$Guess", name := "isWellTold", desc := "(LDrawerGloves$Drawer;ILDrawerGloves$Rows;I)Z" } : Jvm.MethodName) prog_7_method_2_code (8 : Nat) (Option.some Jvm.ClassFile.FieldType.boolean)) ∈ gtbl := mg (mm_3 (List.mem_of_getElem? (i := 224) rfl)) rfl
set_option maxRecDepth 20000 in
theorem m_3_225 : (Jvm.Cond.methodLink "DrawerGloves$Guess" (22 : Nat) ({ cls := "DrawerGloves$Rows", name := "sizeOf", desc := "(I)I" } : Jvm.MethodName)) ∈ gtbl := mg (mm_3 (List.mem_of_getElem? (i := 225) rfl)) rfl
set_option maxRecDepth 20000 in
theorem m_3_226 : (Jvm.Cond.methodLink "DrawerGloves$Guess" (28 : Nat) ({ cls := "DrawerGloves$Rows", name := "read", desc := "(II)I" } : Jvm.MethodName)) ∈ gtbl := mg (mm_3 (List.mem_of_getElem? (i := 226) rfl)) rfl
set_option maxRecDepth 20000 in
theorem m_3_227 : (Jvm.Cond.methodLink "DrawerGloves$Guess" (32 : Nat) ({ cls := "DrawerGloves$Drawer", name := "has", desc := "(I)Z" } : Jvm.MethodName)) ∈ gtbl := mg (mm_3 (List.mem_of_getElem? (i := 227) rfl)) rfl
set_option maxRecDepth 20000 in
theorem m_3_228 : (Jvm.Cond.methodLink "DrawerGloves" (271 : Nat) ({ cls := "DrawerGloves$Guess", name := "sortsLeft", desc := "(LDrawerGloves$Drawer;ILDrawerGloves$Rows;I)I" } : Jvm.MethodName)) ∈ gtbl := mg (mm_3 (List.mem_of_getElem? (i := 228) rfl)) rfl
set_option maxRecDepth 20000 in
theorem m_3_229 : (Jvm.Cond.instanceMethod ({ cls := "DrawerGloves$Guess", name := "sortsLeft", desc := "(LDrawerGloves$Drawer;ILDrawerGloves$Rows;I)I" } : Jvm.MethodName)) ∈ gtbl := mg (mm_3 (List.mem_of_getElem? (i := 229) rfl)) rfl
set_option maxRecDepth 20000 in
theorem m_3_230 : (Jvm.Cond.selects "DrawerGloves$Guess" ({ cls := "DrawerGloves$Guess", name := "sortsLeft", desc := "(LDrawerGloves$Drawer;ILDrawerGloves$Rows;I)I" } : Jvm.MethodName) ({ cls := "DrawerGloves$Guess", name := "sortsLeft", desc := "(LDrawerGloves$Drawer;ILDrawerGloves$Rows;I)I" } : Jvm.MethodName)) ∈ gtbl := mg (mm_3 (List.mem_of_getElem? (i := 230) rfl)) rfl
set_option maxRecDepth 20000 in
theorem m_3_231 : (Jvm.Cond.code ({ cls := "DrawerGloves$Guess", name := "sortsLeft", desc := "(LDrawerGloves$Drawer;ILDrawerGloves$Rows;I)I" } : Jvm.MethodName) prog_7_method_4_code (7 : Nat) (Option.some Jvm.ClassFile.FieldType.int)) ∈ gtbl := mg (mm_3 (List.mem_of_getElem? (i := 231) rfl)) rfl
set_option maxRecDepth 20000 in
theorem m_3_232 : (Jvm.Cond.methodLink "DrawerGloves$Guess" (54 : Nat) ({ cls := "DrawerGloves$Guess", name := "agrees", desc := "(LDrawerGloves$Drawer;LDrawerGloves$Rows;I)Z" } : Jvm.MethodName)) ∈ gtbl := mg (mm_3 (List.mem_of_getElem? (i := 232) rfl)) rfl
set_option maxRecDepth 20000 in
theorem m_3_234 : (Jvm.Cond.instanceMethod ({ cls := "DrawerGloves$Guess", name := "agrees", desc := "(LDrawerGloves$Drawer;LDrawerGloves$Rows;I)Z" } : Jvm.MethodName)) ∈ gtbl := mg (mm_3 (List.mem_of_getElem? (i := 234) rfl)) rfl
set_option maxRecDepth 20000 in
theorem m_3_235 : (Jvm.Cond.code ({ cls := "DrawerGloves$Guess", name := "agrees", desc := "(LDrawerGloves$Drawer;LDrawerGloves$Rows;I)Z" } : Jvm.MethodName) prog_7_method_3_code (6 : Nat) (Option.some Jvm.ClassFile.FieldType.boolean)) ∈ gtbl := mg (mm_3 (List.mem_of_getElem? (i := 235) rfl)) rfl
set_option maxRecDepth 20000 in
theorem m_3_236 : (Jvm.Cond.methodLink "DrawerGlovesLaw" (130 : Nat) ({ cls := "DrawerGloves", name := "hands", desc := "(II)I" } : Jvm.MethodName)) ∈ gtbl := mg (mm_3 (List.mem_of_getElem? (i := 236) rfl)) rfl
set_option maxRecDepth 20000 in
theorem m_3_237 : (Jvm.Cond.instanceMethod ({ cls := "DrawerGloves", name := "hands", desc := "(II)I" } : Jvm.MethodName)) ∈ gtbl := mg (mm_3 (List.mem_of_getElem? (i := 237) rfl)) rfl
set_option maxRecDepth 20000 in
theorem m_3_238 : (Jvm.Cond.selects "DrawerGloves" ({ cls := "DrawerGloves", name := "hands", desc := "(II)I" } : Jvm.MethodName) ({ cls := "DrawerGloves", name := "hands", desc := "(II)I" } : Jvm.MethodName)) ∈ gtbl := mg (mm_3 (List.mem_of_getElem? (i := 238) rfl)) rfl
set_option maxRecDepth 20000 in
theorem m_3_239 : (Jvm.Cond.code ({ cls := "DrawerGloves", name := "hands", desc := "(II)I" } : Jvm.MethodName) prog_1_method_30_code (4 : Nat) (Option.some Jvm.ClassFile.FieldType.int)) ∈ gtbl := mg (mm_3 (List.mem_of_getElem? (i := 239) rfl)) rfl
set_option maxRecDepth 20000 in
theorem m_4_0 : (Jvm.Cond.methodLink "DrawerGloves" (274 : Nat) ({ cls := "DrawerGloves$Guess", name := "handsLeft", desc := "(LDrawerGloves$Drawer;ILDrawerGloves$Rows;I)I" } : Jvm.MethodName)) ∈ gtbl := mg (mm_4 (List.mem_of_getElem? (i := 0) rfl)) rfl
set_option maxRecDepth 20000 in
theorem m_4_1 : (Jvm.Cond.instanceMethod ({ cls := "DrawerGloves$Guess", name := "handsLeft", desc := "(LDrawerGloves$Drawer;ILDrawerGloves$Rows;I)I" } : Jvm.MethodName)) ∈ gtbl := mg (mm_4 (List.mem_of_getElem? (i := 1) rfl)) rfl
set_option maxRecDepth 20000 in
theorem m_4_2 : (Jvm.Cond.selects "DrawerGloves$Guess" ({ cls := "DrawerGloves$Guess", name := "handsLeft", desc := "(LDrawerGloves$Drawer;ILDrawerGloves$Rows;I)I" } : Jvm.MethodName) ({ cls := "DrawerGloves$Guess", name := "handsLeft", desc := "(LDrawerGloves$Drawer;ILDrawerGloves$Rows;I)I" } : Jvm.MethodName)) ∈ gtbl := mg (mm_4 (List.mem_of_getElem? (i := 2) rfl)) rfl
set_option maxRecDepth 20000 in
theorem m_4_3 : (Jvm.Cond.code ({ cls := "DrawerGloves$Guess", name := "handsLeft", desc := "(LDrawerGloves$Drawer;ILDrawerGloves$Rows;I)I" } : Jvm.MethodName) prog_7_method_5_code (7 : Nat) (Option.some Jvm.ClassFile.FieldType.int)) ∈ gtbl := mg (mm_4 (List.mem_of_getElem? (i := 3) rfl)) rfl
set_option maxRecDepth 20000 in
theorem m_4_4 : (Jvm.Cond.methodLink "DrawerGlovesLaw" (134 : Nat) ({ cls := "DrawerGloves", name := "kinds", desc := "(II)I" } : Jvm.MethodName)) ∈ gtbl := mg (mm_4 (List.mem_of_getElem? (i := 4) rfl)) rfl
set_option maxRecDepth 20000 in
theorem m_4_5 : (Jvm.Cond.instanceMethod ({ cls := "DrawerGloves", name := "kinds", desc := "(II)I" } : Jvm.MethodName)) ∈ gtbl := mg (mm_4 (List.mem_of_getElem? (i := 5) rfl)) rfl
set_option maxRecDepth 20000 in
theorem m_4_6 : (Jvm.Cond.selects "DrawerGloves" ({ cls := "DrawerGloves", name := "kinds", desc := "(II)I" } : Jvm.MethodName) ({ cls := "DrawerGloves", name := "kinds", desc := "(II)I" } : Jvm.MethodName)) ∈ gtbl := mg (mm_4 (List.mem_of_getElem? (i := 6) rfl)) rfl
set_option maxRecDepth 20000 in
theorem m_4_7 : (Jvm.Cond.code ({ cls := "DrawerGloves", name := "kinds", desc := "(II)I" } : Jvm.MethodName) prog_1_method_31_code (4 : Nat) (Option.some Jvm.ClassFile.FieldType.int)) ∈ gtbl := mg (mm_4 (List.mem_of_getElem? (i := 7) rfl)) rfl
set_option maxRecDepth 20000 in
theorem m_4_8 : (Jvm.Cond.methodLink "DrawerGloves" (277 : Nat) ({ cls := "DrawerGloves$Guess", name := "kindsLeft", desc := "(LDrawerGloves$Drawer;ILDrawerGloves$Rows;I)I" } : Jvm.MethodName)) ∈ gtbl := mg (mm_4 (List.mem_of_getElem? (i := 8) rfl)) rfl
set_option maxRecDepth 20000 in
theorem m_4_9 : (Jvm.Cond.instanceMethod ({ cls := "DrawerGloves$Guess", name := "kindsLeft", desc := "(LDrawerGloves$Drawer;ILDrawerGloves$Rows;I)I" } : Jvm.MethodName)) ∈ gtbl := mg (mm_4 (List.mem_of_getElem? (i := 9) rfl)) rfl
set_option maxRecDepth 20000 in
theorem m_4_10 : (Jvm.Cond.selects "DrawerGloves$Guess" ({ cls := "DrawerGloves$Guess", name := "kindsLeft", desc := "(LDrawerGloves$Drawer;ILDrawerGloves$Rows;I)I" } : Jvm.MethodName) ({ cls := "DrawerGloves$Guess", name := "kindsLeft", desc := "(LDrawerGloves$Drawer;ILDrawerGloves$Rows;I)I" } : Jvm.MethodName)) ∈ gtbl := mg (mm_4 (List.mem_of_getElem? (i := 10) rfl)) rfl
set_option maxRecDepth 20000 in
theorem m_4_11 : (Jvm.Cond.code ({ cls := "DrawerGloves$Guess", name := "kindsLeft", desc := "(LDrawerGloves$Drawer;ILDrawerGloves$Rows;I)I" } : Jvm.MethodName) prog_7_method_6_code (7 : Nat) (Option.some Jvm.ClassFile.FieldType.int)) ∈ gtbl := mg (mm_4 (List.mem_of_getElem? (i := 11) rfl)) rfl
set_option maxRecDepth 20000 in
theorem m_4_12 : (Jvm.Cond.methodLink "DrawerGlovesLaw" (138 : Nat) ({ cls := "DrawerGloves", name := "test", desc := "(II)I" } : Jvm.MethodName)) ∈ gtbl := mg (mm_4 (List.mem_of_getElem? (i := 12) rfl)) rfl
set_option maxRecDepth 20000 in
theorem m_4_13 : (Jvm.Cond.instanceMethod ({ cls := "DrawerGloves", name := "test", desc := "(II)I" } : Jvm.MethodName)) ∈ gtbl := mg (mm_4 (List.mem_of_getElem? (i := 13) rfl)) rfl
set_option maxRecDepth 20000 in
theorem m_4_14 : (Jvm.Cond.selects "DrawerGloves" ({ cls := "DrawerGloves", name := "test", desc := "(II)I" } : Jvm.MethodName) ({ cls := "DrawerGloves", name := "test", desc := "(II)I" } : Jvm.MethodName)) ∈ gtbl := mg (mm_4 (List.mem_of_getElem? (i := 14) rfl)) rfl
set_option maxRecDepth 20000 in
theorem m_4_15 : (Jvm.Cond.code ({ cls := "DrawerGloves", name := "test", desc := "(II)I" } : Jvm.MethodName) prog_1_method_32_code (6 : Nat) (Option.some Jvm.ClassFile.FieldType.int)) ∈ gtbl := mg (mm_4 (List.mem_of_getElem? (i := 15) rfl)) rfl
set_option maxRecDepth 20000 in
theorem m_4_16 : (Jvm.Cond.methodLink "DrawerGloves" (280 : Nat) ({ cls := "DrawerGloves$Guess", name := "nextTry", desc := "(LDrawerGloves$Drawer;II)I" } : Jvm.MethodName)) ∈ gtbl := mg (mm_4 (List.mem_of_getElem? (i := 16) rfl)) rfl
set_option maxRecDepth 20000 in
theorem m_4_17 : (Jvm.Cond.instanceMethod ({ cls := "DrawerGloves$Guess", name := "nextTry", desc := "(LDrawerGloves$Drawer;II)I" } : Jvm.MethodName)) ∈ gtbl := mg (mm_4 (List.mem_of_getElem? (i := 17) rfl)) rfl
set_option maxRecDepth 20000 in
theorem m_4_18 : (Jvm.Cond.selects "DrawerGloves$Guess" ({ cls := "DrawerGloves$Guess", name := "nextTry", desc := "(LDrawerGloves$Drawer;II)I" } : Jvm.MethodName) ({ cls := "DrawerGloves$Guess", name := "nextTry", desc := "(LDrawerGloves$Drawer;II)I" } : Jvm.MethodName)) ∈ gtbl := mg (mm_4 (List.mem_of_getElem? (i := 18) rfl)) rfl
set_option maxRecDepth 20000 in
theorem m_4_19 : (Jvm.Cond.code ({ cls := "DrawerGloves$Guess", name := "nextTry", desc := "(LDrawerGloves$Drawer;II)I" } : Jvm.MethodName) prog_7_method_7_code (8 : Nat) (Option.some Jvm.ClassFile.FieldType.int)) ∈ gtbl := mg (mm_4 (List.mem_of_getElem? (i := 19) rfl)) rfl
set_option maxRecDepth 20000 in
theorem m_4_20 : (Jvm.Cond.methodLink "DrawerGloves$Guess" (67 : Nat) ({ cls := "DrawerGloves$Guess", name := "greatestPart", desc := "(LDrawerGloves$Drawer;III)I" } : Jvm.MethodName)) ∈ gtbl := mg (mm_4 (List.mem_of_getElem? (i := 20) rfl)) rfl
set_option maxRecDepth 20000 in
theorem m_4_21 : (Jvm.Cond.instanceMethod ({ cls := "DrawerGloves$Guess", name := "greatestPart", desc := "(LDrawerGloves$Drawer;III)I" } : Jvm.MethodName)) ∈ gtbl := mg (mm_4 (List.mem_of_getElem? (i := 21) rfl)) rfl
set_option maxRecDepth 20000 in
theorem m_4_22 : (Jvm.Cond.selects "DrawerGloves$Guess" ({ cls := "DrawerGloves$Guess", name := "greatestPart", desc := "(LDrawerGloves$Drawer;III)I" } : Jvm.MethodName) ({ cls := "DrawerGloves$Guess", name := "greatestPart", desc := "(LDrawerGloves$Drawer;III)I" } : Jvm.MethodName)) ∈ gtbl := mg (mm_4 (List.mem_of_getElem? (i := 22) rfl)) rfl
set_option maxRecDepth 20000 in
theorem m_4_23 : (Jvm.Cond.code ({ cls := "DrawerGloves$Guess", name := "greatestPart", desc := "(LDrawerGloves$Drawer;III)I" } : Jvm.MethodName) prog_7_method_8_code (7 : Nat) (Option.some Jvm.ClassFile.FieldType.int)) ∈ gtbl := mg (mm_4 (List.mem_of_getElem? (i := 23) rfl)) rfl
set_option maxRecDepth 20000 in
theorem m_4_24 : (Jvm.Cond.methodLink "DrawerGloves$Guess" (71 : Nat) ({ cls := "DrawerGloves$Guess", name := "howManyLike", desc := "(II)I" } : Jvm.MethodName)) ∈ gtbl := mg (mm_4 (List.mem_of_getElem? (i := 24) rfl)) rfl
set_option maxRecDepth 20000 in
theorem m_4_26 : (Jvm.Cond.instanceMethod ({ cls := "DrawerGloves$Guess", name := "howManyLike", desc := "(II)I" } : Jvm.MethodName)) ∈ gtbl := mg (mm_4 (List.mem_of_getElem? (i := 26) rfl)) rfl
set_option maxRecDepth 20000 in
theorem m_4_27 : (Jvm.Cond.code ({ cls := "DrawerGloves$Guess", name := "howManyLike", desc := "(II)I" } : Jvm.MethodName) prog_7_method_9_code (5 : Nat) (Option.some Jvm.ClassFile.FieldType.int)) ∈ gtbl := mg (mm_4 (List.mem_of_getElem? (i := 27) rfl)) rfl
set_option maxRecDepth 20000 in
theorem m_4_28 : (Jvm.Cond.methodLink "DrawerGloves$Guess" (74 : Nat) ({ cls := "java/lang/Math", name := "max", desc := "(II)I" } : Jvm.MethodName)) ∈ gtbl := mg (mm_4 (List.mem_of_getElem? (i := 28) rfl)) rfl
set_option maxRecDepth 20000 in
theorem m_4_29 : (Jvm.Cond.methodLink "DrawerGloves" (284 : Nat) ({ cls := "DrawerGloves$Guess", name := "greatestPart", desc := "(LDrawerGloves$Drawer;III)I" } : Jvm.MethodName)) ∈ gtbl := mg (mm_4 (List.mem_of_getElem? (i := 29) rfl)) rfl
set_option maxRecDepth 20000 in
theorem m_4_30 : (Jvm.Cond.methodLink "DrawerGlovesLaw" (142 : Nat) ({ cls := "DrawerGloves", name := "duel", desc := "(I)I" } : Jvm.MethodName)) ∈ gtbl := mg (mm_4 (List.mem_of_getElem? (i := 30) rfl)) rfl
set_option maxRecDepth 20000 in
theorem m_4_31 : (Jvm.Cond.instanceMethod ({ cls := "DrawerGloves", name := "duel", desc := "(I)I" } : Jvm.MethodName)) ∈ gtbl := mg (mm_4 (List.mem_of_getElem? (i := 31) rfl)) rfl
set_option maxRecDepth 20000 in
theorem m_4_32 : (Jvm.Cond.selects "DrawerGloves" ({ cls := "DrawerGloves", name := "duel", desc := "(I)I" } : Jvm.MethodName) ({ cls := "DrawerGloves", name := "duel", desc := "(I)I" } : Jvm.MethodName)) ∈ gtbl := mg (mm_4 (List.mem_of_getElem? (i := 32) rfl)) rfl
set_option maxRecDepth 20000 in
theorem m_4_33 : (Jvm.Cond.code ({ cls := "DrawerGloves", name := "duel", desc := "(I)I" } : Jvm.MethodName) prog_1_method_33_code (2 : Nat) (Option.some Jvm.ClassFile.FieldType.int)) ∈ gtbl := mg (mm_4 (List.mem_of_getElem? (i := 33) rfl)) rfl
set_option maxRecDepth 20000 in
theorem m_4_34 : (Jvm.Cond.methodLink "DrawerGloves" (288 : Nat) ({ cls := "DrawerGloves$Rivals", name := "leadAfter", desc := "(LDrawerGloves$Makings;II)I" } : Jvm.MethodName)) ∈ gtbl := mg (mm_4 (List.mem_of_getElem? (i := 34) rfl)) rfl
set_option maxRecDepth 20000 in
theorem m_4_35 : (Jvm.Cond.instanceMethod ({ cls := "DrawerGloves$Rivals", name := "leadAfter", desc := "(LDrawerGloves$Makings;II)I" } : Jvm.MethodName)) ∈ gtbl := mg (mm_4 (List.mem_of_getElem? (i := 35) rfl)) rfl
set_option maxRecDepth 20000 in
theorem m_4_36 : (Jvm.Cond.selects "DrawerGloves$Rivals" ({ cls := "DrawerGloves$Rivals", name := "leadAfter", desc := "(LDrawerGloves$Makings;II)I" } : Jvm.MethodName) ({ cls := "DrawerGloves$Rivals", name := "leadAfter", desc := "(LDrawerGloves$Makings;II)I" } : Jvm.MethodName)) ∈ gtbl := mg (mm_4 (List.mem_of_getElem? (i := 36) rfl)) rfl
set_option maxRecDepth 20000 in
theorem m_4_37 : (Jvm.Cond.code ({ cls := "DrawerGloves$Rivals", name := "leadAfter", desc := "(LDrawerGloves$Makings;II)I" } : Jvm.MethodName) prog_10_method_2_code (5 : Nat) (Option.some Jvm.ClassFile.FieldType.int)) ∈ gtbl := mg (mm_4 (List.mem_of_getElem? (i := 37) rfl)) rfl
set_option maxRecDepth 20000 in
theorem m_4_38 : (Jvm.Cond.constant "DrawerGloves$Rivals" (18 : Nat) (1000000 : Int32)) ∈ gtbl := mg (mm_4 (List.mem_of_getElem? (i := 38) rfl)) rfl
set_option maxRecDepth 20000 in
theorem m_4_39 : (Jvm.Cond.methodLink "DrawerGloves$Rivals" (19 : Nat) ({ cls := "DrawerGloves$Rivals", name := "lead", desc := "(LDrawerGloves$Rivals;LDrawerGloves$Makings;IIII)I" } : Jvm.MethodName)) ∈ gtbl := mg (mm_4 (List.mem_of_getElem? (i := 39) rfl)) rfl
set_option maxRecDepth 20000 in
theorem m_4_40 : (Jvm.Cond.static ({ cls := "DrawerGloves$Rivals", name := "lead", desc := "(LDrawerGloves$Rivals;LDrawerGloves$Makings;IIII)I" } : Jvm.MethodName)) ∈ gtbl := mg (mm_4 (List.mem_of_getElem? (i := 40) rfl)) rfl
set_option maxRecDepth 20000 in
theorem m_4_41 : (Jvm.Cond.code ({ cls := "DrawerGloves$Rivals", name := "lead", desc := "(LDrawerGloves$Rivals;LDrawerGloves$Makings;IIII)I" } : Jvm.MethodName) prog_10_method_3_code (10 : Nat) (Option.some Jvm.ClassFile.FieldType.int)) ∈ gtbl := mg (mm_4 (List.mem_of_getElem? (i := 41) rfl)) rfl
set_option maxRecDepth 20000 in
theorem m_4_42 : (Jvm.Cond.constant "DrawerGloves$Rivals" (28 : Nat) (-1000000 : Int32)) ∈ gtbl := mg (mm_4 (List.mem_of_getElem? (i := 42) rfl)) rfl
set_option maxRecDepth 20000 in
theorem m_4_43 : (Jvm.Cond.methodLink "DrawerGloves$Rivals" (29 : Nat) ({ cls := "java/lang/Math", name := "max", desc := "(II)I" } : Jvm.MethodName)) ∈ gtbl := mg (mm_4 (List.mem_of_getElem? (i := 43) rfl)) rfl
set_option maxRecDepth 20000 in
theorem m_4_44 : (Jvm.Cond.methodLink "DrawerGlovesLaw" (146 : Nat) ({ cls := "DrawerGloves", name := "odds", desc := "(III)I" } : Jvm.MethodName)) ∈ gtbl := mg (mm_4 (List.mem_of_getElem? (i := 44) rfl)) rfl
set_option maxRecDepth 20000 in
theorem m_4_45 : (Jvm.Cond.instanceMethod ({ cls := "DrawerGloves", name := "odds", desc := "(III)I" } : Jvm.MethodName)) ∈ gtbl := mg (mm_4 (List.mem_of_getElem? (i := 45) rfl)) rfl
set_option maxRecDepth 20000 in
theorem m_4_46 : (Jvm.Cond.selects "DrawerGloves" ({ cls := "DrawerGloves", name := "odds", desc := "(III)I" } : Jvm.MethodName) ({ cls := "DrawerGloves", name := "odds", desc := "(III)I" } : Jvm.MethodName)) ∈ gtbl := mg (mm_4 (List.mem_of_getElem? (i := 46) rfl)) rfl
set_option maxRecDepth 20000 in
theorem m_4_47 : (Jvm.Cond.code ({ cls := "DrawerGloves", name := "odds", desc := "(III)I" } : Jvm.MethodName) prog_1_method_34_code (4 : Nat) (Option.some Jvm.ClassFile.FieldType.int)) ∈ gtbl := mg (mm_4 (List.mem_of_getElem? (i := 47) rfl)) rfl
set_option maxRecDepth 20000 in
theorem m_4_48 : (Jvm.Cond.methodLink "DrawerGloves" (292 : Nat) ({ cls := "DrawerGloves", name := "isChance", desc := "(I)Z" } : Jvm.MethodName)) ∈ gtbl := mg (mm_4 (List.mem_of_getElem? (i := 48) rfl)) rfl
set_option maxRecDepth 20000 in
theorem m_4_49 : (Jvm.Cond.static ({ cls := "DrawerGloves", name := "isChance", desc := "(I)Z" } : Jvm.MethodName)) ∈ gtbl := mg (mm_4 (List.mem_of_getElem? (i := 49) rfl)) rfl
set_option maxRecDepth 20000 in
theorem m_4_50 : (Jvm.Cond.code ({ cls := "DrawerGloves", name := "isChance", desc := "(I)Z" } : Jvm.MethodName) prog_1_method_52_code (1 : Nat) (Option.some Jvm.ClassFile.FieldType.boolean)) ∈ gtbl := mg (mm_4 (List.mem_of_getElem? (i := 50) rfl)) rfl
set_option maxRecDepth 20000 in
theorem m_4_51 : (Jvm.Cond.methodLink "DrawerGloves" (295 : Nat) ({ cls := "DrawerGloves$Makings", name := "markSetsOf", desc := "(I)V" } : Jvm.MethodName)) ∈ gtbl := mg (mm_4 (List.mem_of_getElem? (i := 51) rfl)) rfl
set_option maxRecDepth 20000 in
theorem m_4_52 : (Jvm.Cond.instanceMethod ({ cls := "DrawerGloves$Makings", name := "markSetsOf", desc := "(I)V" } : Jvm.MethodName)) ∈ gtbl := mg (mm_4 (List.mem_of_getElem? (i := 52) rfl)) rfl
set_option maxRecDepth 20000 in
theorem m_4_53 : (Jvm.Cond.selects "DrawerGloves$Makings" ({ cls := "DrawerGloves$Makings", name := "markSetsOf", desc := "(I)V" } : Jvm.MethodName) ({ cls := "DrawerGloves$Makings", name := "markSetsOf", desc := "(I)V" } : Jvm.MethodName)) ∈ gtbl := mg (mm_4 (List.mem_of_getElem? (i := 53) rfl)) rfl
set_option maxRecDepth 20000 in
theorem m_4_54 : (Jvm.Cond.code ({ cls := "DrawerGloves$Makings", name := "markSetsOf", desc := "(I)V" } : Jvm.MethodName) prog_8_method_9_code (3 : Nat) (Option.none : Option Jvm.ClassFile.FieldType)) ∈ gtbl := mg (mm_4 (List.mem_of_getElem? (i := 54) rfl)) rfl
set_option maxRecDepth 20000 in
theorem m_4_55 : (Jvm.Cond.methodLink "DrawerGloves" (301 : Nat) ({ cls := "DrawerGloves$Chances", name := "reckon", desc := "(LDrawerGloves$Drawer;II[I)V" } : Jvm.MethodName)) ∈ gtbl := mg (mm_4 (List.mem_of_getElem? (i := 55) rfl)) rfl
set_option maxRecDepth 20000 in
theorem m_4_56 : (Jvm.Cond.instanceMethod ({ cls := "DrawerGloves$Chances", name := "reckon", desc := "(LDrawerGloves$Drawer;II[I)V" } : Jvm.MethodName)) ∈ gtbl := mg (mm_4 (List.mem_of_getElem? (i := 56) rfl)) rfl
set_option maxRecDepth 20000 in
theorem m_4_57 : (Jvm.Cond.selects "DrawerGloves$Chances" ({ cls := "DrawerGloves$Chances", name := "reckon", desc := "(LDrawerGloves$Drawer;II[I)V" } : Jvm.MethodName) ({ cls := "DrawerGloves$Chances", name := "reckon", desc := "(LDrawerGloves$Drawer;II[I)V" } : Jvm.MethodName)) ∈ gtbl := mg (mm_4 (List.mem_of_getElem? (i := 57) rfl)) rfl
set_option maxRecDepth 20000 in
theorem m_4_58 : (Jvm.Cond.code ({ cls := "DrawerGloves$Chances", name := "reckon", desc := "(LDrawerGloves$Drawer;II[I)V" } : Jvm.MethodName) prog_3_method_2_code (12 : Nat) (Option.none : Option Jvm.ClassFile.FieldType)) ∈ gtbl := mg (mm_4 (List.mem_of_getElem? (i := 58) rfl)) rfl
set_option maxRecDepth 20000 in
theorem m_4_59 : (Jvm.Cond.methodLink "DrawerGloves$Chances" (22 : Nat) ({ cls := "DrawerGloves$Drawer", name := "setOf", desc := "(I)I" } : Jvm.MethodName)) ∈ gtbl := mg (mm_4 (List.mem_of_getElem? (i := 59) rfl)) rfl
set_option maxRecDepth 20000 in
theorem m_4_60 : (Jvm.Cond.methodLink "DrawerGloves$Chances" (36 : Nat) ({ cls := "DrawerGloves$Chances", name := "lossOf", desc := "(LDrawerGloves$Glove;II)I" } : Jvm.MethodName)) ∈ gtbl := mg (mm_4 (List.mem_of_getElem? (i := 60) rfl)) rfl
set_option maxRecDepth 20000 in
theorem m_4_61 : (Jvm.Cond.static ({ cls := "DrawerGloves$Chances", name := "lossOf", desc := "(LDrawerGloves$Glove;II)I" } : Jvm.MethodName)) ∈ gtbl := mg (mm_4 (List.mem_of_getElem? (i := 61) rfl)) rfl
set_option maxRecDepth 20000 in
theorem m_4_62 : (Jvm.Cond.code ({ cls := "DrawerGloves$Chances", name := "lossOf", desc := "(LDrawerGloves$Glove;II)I" } : Jvm.MethodName) prog_3_method_3_code (3 : Nat) (Option.some Jvm.ClassFile.FieldType.int)) ∈ gtbl := mg (mm_4 (List.mem_of_getElem? (i := 62) rfl)) rfl
set_option maxRecDepth 20000 in
theorem m_4_63 : (Jvm.Cond.methodLink "DrawerGloves$Chances" (55 : Nat) ({ cls := "DrawerGloves$Glove", name := "isOf", desc := "(I)Z" } : Jvm.MethodName)) ∈ gtbl := mg (mm_4 (List.mem_of_getElem? (i := 63) rfl)) rfl
set_option maxRecDepth 20000 in
theorem m_4_64 : (Jvm.Cond.methodLink "DrawerGloves$Chances" (59 : Nat) ({ cls := "java/lang/Math", name := "max", desc := "(II)I" } : Jvm.MethodName)) ∈ gtbl := mg (mm_4 (List.mem_of_getElem? (i := 64) rfl)) rfl
set_option maxRecDepth 20000 in
theorem m_4_65 : (Jvm.Cond.constantLong "DrawerGloves$Chances" (40 : Nat) (12 : Int64)) ∈ gtbl := mg (mm_4 (List.mem_of_getElem? (i := 65) rfl)) rfl
set_option maxRecDepth 20000 in
theorem m_4_66 : (Jvm.Cond.methodLink "DrawerGloves$Chances" (42 : Nat) ({ cls := "DrawerGloves$Chances", name := "waysTo", desc := "(LDrawerGloves$Drawer;II)J" } : Jvm.MethodName)) ∈ gtbl := mg (mm_4 (List.mem_of_getElem? (i := 66) rfl)) rfl
set_option maxRecDepth 20000 in
theorem m_4_68 : (Jvm.Cond.instanceMethod ({ cls := "DrawerGloves$Chances", name := "waysTo", desc := "(LDrawerGloves$Drawer;II)J" } : Jvm.MethodName)) ∈ gtbl := mg (mm_4 (List.mem_of_getElem? (i := 68) rfl)) rfl
set_option maxRecDepth 20000 in
theorem m_4_69 : (Jvm.Cond.code ({ cls := "DrawerGloves$Chances", name := "waysTo", desc := "(LDrawerGloves$Drawer;II)J" } : Jvm.MethodName) prog_3_method_4_code (7 : Nat) (Option.some Jvm.ClassFile.FieldType.long)) ∈ gtbl := mg (mm_4 (List.mem_of_getElem? (i := 69) rfl)) rfl
set_option maxRecDepth 20000 in
theorem m_4_70 : (Jvm.Cond.methodLink "DrawerGloves$Chances" (46 : Nat) ({ cls := "DrawerGloves$Chances", name := "commonDivisor", desc := "(JJ)J" } : Jvm.MethodName)) ∈ gtbl := mg (mm_4 (List.mem_of_getElem? (i := 70) rfl)) rfl
set_option maxRecDepth 20000 in
theorem m_4_71 : (Jvm.Cond.static ({ cls := "DrawerGloves$Chances", name := "commonDivisor", desc := "(JJ)J" } : Jvm.MethodName)) ∈ gtbl := mg (mm_4 (List.mem_of_getElem? (i := 71) rfl)) rfl
set_option maxRecDepth 20000 in
theorem m_4_72 : (Jvm.Cond.code ({ cls := "DrawerGloves$Chances", name := "commonDivisor", desc := "(JJ)J" } : Jvm.MethodName) prog_3_method_5_code (7 : Nat) (Option.some Jvm.ClassFile.FieldType.long)) ∈ gtbl := mg (mm_4 (List.mem_of_getElem? (i := 72) rfl)) rfl
set_option maxRecDepth 20000 in
theorem m_4_73 : (Jvm.Cond.methodLink "DrawerGlovesLaw" (150 : Nat) ({ cls := "DrawerGloves", name := "mid", desc := "(II)I" } : Jvm.MethodName)) ∈ gtbl := mg (mm_4 (List.mem_of_getElem? (i := 73) rfl)) rfl
set_option maxRecDepth 20000 in
theorem m_4_74 : (Jvm.Cond.instanceMethod ({ cls := "DrawerGloves", name := "mid", desc := "(II)I" } : Jvm.MethodName)) ∈ gtbl := mg (mm_4 (List.mem_of_getElem? (i := 74) rfl)) rfl
set_option maxRecDepth 20000 in
theorem m_4_75 : (Jvm.Cond.selects "DrawerGloves" ({ cls := "DrawerGloves", name := "mid", desc := "(II)I" } : Jvm.MethodName) ({ cls := "DrawerGloves", name := "mid", desc := "(II)I" } : Jvm.MethodName)) ∈ gtbl := mg (mm_4 (List.mem_of_getElem? (i := 75) rfl)) rfl
set_option maxRecDepth 20000 in
theorem m_4_76 : (Jvm.Cond.code ({ cls := "DrawerGloves", name := "mid", desc := "(II)I" } : Jvm.MethodName) prog_1_method_35_code (3 : Nat) (Option.some Jvm.ClassFile.FieldType.int)) ∈ gtbl := mg (mm_4 (List.mem_of_getElem? (i := 76) rfl)) rfl
set_option maxRecDepth 20000 in
theorem m_4_77 : (Jvm.Cond.methodLink "DrawerGlovesLaw" (154 : Nat) ({ cls := "DrawerGloves", name := "lots", desc := "(II)I" } : Jvm.MethodName)) ∈ gtbl := mg (mm_4 (List.mem_of_getElem? (i := 77) rfl)) rfl
set_option maxRecDepth 20000 in
theorem m_4_78 : (Jvm.Cond.instanceMethod ({ cls := "DrawerGloves", name := "lots", desc := "(II)I" } : Jvm.MethodName)) ∈ gtbl := mg (mm_4 (List.mem_of_getElem? (i := 78) rfl)) rfl
set_option maxRecDepth 20000 in
theorem m_4_79 : (Jvm.Cond.selects "DrawerGloves" ({ cls := "DrawerGloves", name := "lots", desc := "(II)I" } : Jvm.MethodName) ({ cls := "DrawerGloves", name := "lots", desc := "(II)I" } : Jvm.MethodName)) ∈ gtbl := mg (mm_4 (List.mem_of_getElem? (i := 79) rfl)) rfl
set_option maxRecDepth 20000 in
theorem m_4_80 : (Jvm.Cond.code ({ cls := "DrawerGloves", name := "lots", desc := "(II)I" } : Jvm.MethodName) prog_1_method_36_code (6 : Nat) (Option.some Jvm.ClassFile.FieldType.int)) ∈ gtbl := mg (mm_4 (List.mem_of_getElem? (i := 80) rfl)) rfl
set_option maxRecDepth 20000 in
theorem m_4_81 : (Jvm.Cond.constantLong "DrawerGloves" (305 : Nat) (2147483647 : Int64)) ∈ gtbl := mg (mm_4 (List.mem_of_getElem? (i := 81) rfl)) rfl
set_option maxRecDepth 20000 in
theorem m_4_82 : (Jvm.Cond.constantLong "DrawerGloves" (307 : Nat) (48271 : Int64)) ∈ gtbl := mg (mm_4 (List.mem_of_getElem? (i := 82) rfl)) rfl
set_option maxRecDepth 20000 in
theorem m_4_83 : (Jvm.Cond.constantLong "DrawerGloves" (309 : Nat) (8 : Int64)) ∈ gtbl := mg (mm_4 (List.mem_of_getElem? (i := 83) rfl)) rfl
set_option maxRecDepth 20000 in
theorem m_4_84 : (Jvm.Cond.methodLink "DrawerGloves" (311 : Nat) ({ cls := "DrawerGloves$Drawer", name := "actByLot", desc := "(J)V" } : Jvm.MethodName)) ∈ gtbl := mg (mm_4 (List.mem_of_getElem? (i := 84) rfl)) rfl
set_option maxRecDepth 20000 in
theorem m_4_85 : (Jvm.Cond.instanceMethod ({ cls := "DrawerGloves$Drawer", name := "actByLot", desc := "(J)V" } : Jvm.MethodName)) ∈ gtbl := mg (mm_4 (List.mem_of_getElem? (i := 85) rfl)) rfl
set_option maxRecDepth 20000 in
theorem m_4_86 : (Jvm.Cond.selects "DrawerGloves$Drawer" ({ cls := "DrawerGloves$Drawer", name := "actByLot", desc := "(J)V" } : Jvm.MethodName) ({ cls := "DrawerGloves$Drawer", name := "actByLot", desc := "(J)V" } : Jvm.MethodName)) ∈ gtbl := mg (mm_4 (List.mem_of_getElem? (i := 86) rfl)) rfl
set_option maxRecDepth 20000 in
theorem m_4_87 : (Jvm.Cond.code ({ cls := "DrawerGloves$Drawer", name := "actByLot", desc := "(J)V" } : Jvm.MethodName) prog_5_method_15_code (4 : Nat) (Option.none : Option Jvm.ClassFile.FieldType)) ∈ gtbl := mg (mm_4 (List.mem_of_getElem? (i := 87) rfl)) rfl
set_option maxRecDepth 20000 in
theorem m_4_88 : (Jvm.Cond.methodLink "DrawerGloves$Drawer" (101 : Nat) ({ cls := "DrawerGloves$Drawer", name := "canBeLost", desc := "(I)Z" } : Jvm.MethodName)) ∈ gtbl := mg (mm_4 (List.mem_of_getElem? (i := 88) rfl)) rfl
set_option maxRecDepth 20000 in
theorem m_4_89 : (Jvm.Cond.methodLink "DrawerGloves$Drawer" (104 : Nat) ({ cls := "DrawerGloves$Drawer", name := "act", desc := "(III)V" } : Jvm.MethodName)) ∈ gtbl := mg (mm_4 (List.mem_of_getElem? (i := 89) rfl)) rfl
set_option maxRecDepth 20000 in
theorem m_4_90 : (Jvm.Cond.methodLink "DrawerGloves$Drawer" (107 : Nat) ({ cls := "DrawerGloves$Drawer", name := "hasRoom", desc := "()Z" } : Jvm.MethodName)) ∈ gtbl := mg (mm_4 (List.mem_of_getElem? (i := 90) rfl)) rfl
set_option maxRecDepth 20000 in
theorem m_4_91 : (Jvm.Cond.methodLink "DrawerGloves$Drawer" (111 : Nat) ({ cls := "DrawerGloves$Drawer", name := "wearFirstPair", desc := "()V" } : Jvm.MethodName)) ∈ gtbl := mg (mm_4 (List.mem_of_getElem? (i := 91) rfl)) rfl
set_option maxRecDepth 20000 in
theorem m_4_93 : (Jvm.Cond.instanceMethod ({ cls := "DrawerGloves$Drawer", name := "wearFirstPair", desc := "()V" } : Jvm.MethodName)) ∈ gtbl := mg (mm_4 (List.mem_of_getElem? (i := 93) rfl)) rfl
set_option maxRecDepth 20000 in
theorem m_4_94 : (Jvm.Cond.code ({ cls := "DrawerGloves$Drawer", name := "wearFirstPair", desc := "()V" } : Jvm.MethodName) prog_5_method_16_code (3 : Nat) (Option.none : Option Jvm.ClassFile.FieldType)) ∈ gtbl := mg (mm_4 (List.mem_of_getElem? (i := 94) rfl)) rfl
set_option maxRecDepth 20000 in
theorem m_4_95 : (Jvm.Cond.methodLink "DrawerGlovesLaw" (158 : Nat) ({ cls := "DrawerGloves", name := "asked", desc := "()I" } : Jvm.MethodName)) ∈ gtbl := mg (mm_4 (List.mem_of_getElem? (i := 95) rfl)) rfl
set_option maxRecDepth 20000 in
theorem m_4_96 : (Jvm.Cond.instanceMethod ({ cls := "DrawerGloves", name := "asked", desc := "()I" } : Jvm.MethodName)) ∈ gtbl := mg (mm_4 (List.mem_of_getElem? (i := 96) rfl)) rfl
set_option maxRecDepth 20000 in
theorem m_4_97 : (Jvm.Cond.selects "DrawerGloves" ({ cls := "DrawerGloves", name := "asked", desc := "()I" } : Jvm.MethodName) ({ cls := "DrawerGloves", name := "asked", desc := "()I" } : Jvm.MethodName)) ∈ gtbl := mg (mm_4 (List.mem_of_getElem? (i := 97) rfl)) rfl
set_option maxRecDepth 20000 in
theorem m_4_98 : (Jvm.Cond.code ({ cls := "DrawerGloves", name := "asked", desc := "()I" } : Jvm.MethodName) prog_1_method_37_code (1 : Nat) (Option.some Jvm.ClassFile.FieldType.int)) ∈ gtbl := mg (mm_4 (List.mem_of_getElem? (i := 98) rfl)) rfl
set_option maxRecDepth 20000 in
theorem m_4_99 : (Jvm.Cond.methodLink "DrawerGlovesLaw" (162 : Nat) ({ cls := "DrawerGloves", name := "upper", desc := "()J" } : Jvm.MethodName)) ∈ gtbl := mg (mm_4 (List.mem_of_getElem? (i := 99) rfl)) rfl
set_option maxRecDepth 20000 in
theorem m_4_100 : (Jvm.Cond.instanceMethod ({ cls := "DrawerGloves", name := "upper", desc := "()J" } : Jvm.MethodName)) ∈ gtbl := mg (mm_4 (List.mem_of_getElem? (i := 100) rfl)) rfl
set_option maxRecDepth 20000 in
theorem m_4_101 : (Jvm.Cond.selects "DrawerGloves" ({ cls := "DrawerGloves", name := "upper", desc := "()J" } : Jvm.MethodName) ({ cls := "DrawerGloves", name := "upper", desc := "()J" } : Jvm.MethodName)) ∈ gtbl := mg (mm_4 (List.mem_of_getElem? (i := 101) rfl)) rfl
set_option maxRecDepth 20000 in
theorem m_4_102 : (Jvm.Cond.code ({ cls := "DrawerGloves", name := "upper", desc := "()J" } : Jvm.MethodName) prog_1_method_38_code (1 : Nat) (Option.some Jvm.ClassFile.FieldType.long)) ∈ gtbl := mg (mm_4 (List.mem_of_getElem? (i := 102) rfl)) rfl
set_option maxRecDepth 20000 in
theorem m_4_103 : (Jvm.Cond.methodLink "DrawerGlovesLaw" (167 : Nat) ({ cls := "DrawerGloves", name := "lower", desc := "()J" } : Jvm.MethodName)) ∈ gtbl := mg (mm_4 (List.mem_of_getElem? (i := 103) rfl)) rfl
set_option maxRecDepth 20000 in
theorem m_4_104 : (Jvm.Cond.instanceMethod ({ cls := "DrawerGloves", name := "lower", desc := "()J" } : Jvm.MethodName)) ∈ gtbl := mg (mm_4 (List.mem_of_getElem? (i := 104) rfl)) rfl
set_option maxRecDepth 20000 in
theorem m_4_105 : (Jvm.Cond.selects "DrawerGloves" ({ cls := "DrawerGloves", name := "lower", desc := "()J" } : Jvm.MethodName) ({ cls := "DrawerGloves", name := "lower", desc := "()J" } : Jvm.MethodName)) ∈ gtbl := mg (mm_4 (List.mem_of_getElem? (i := 105) rfl)) rfl
set_option maxRecDepth 20000 in
theorem m_4_106 : (Jvm.Cond.code ({ cls := "DrawerGloves", name := "lower", desc := "()J" } : Jvm.MethodName) prog_1_method_39_code (1 : Nat) (Option.some Jvm.ClassFile.FieldType.long)) ∈ gtbl := mg (mm_4 (List.mem_of_getElem? (i := 106) rfl)) rfl
set_option maxRecDepth 20000 in
theorem m_4_107 : (Jvm.Cond.methodLink "DrawerGlovesLaw" (171 : Nat) ({ cls := "DrawerGloves", name := "count", desc := "(I)I" } : Jvm.MethodName)) ∈ gtbl := mg (mm_4 (List.mem_of_getElem? (i := 107) rfl)) rfl
set_option maxRecDepth 20000 in
theorem m_4_108 : (Jvm.Cond.instanceMethod ({ cls := "DrawerGloves", name := "count", desc := "(I)I" } : Jvm.MethodName)) ∈ gtbl := mg (mm_4 (List.mem_of_getElem? (i := 108) rfl)) rfl
set_option maxRecDepth 20000 in
theorem m_4_109 : (Jvm.Cond.selects "DrawerGloves" ({ cls := "DrawerGloves", name := "count", desc := "(I)I" } : Jvm.MethodName) ({ cls := "DrawerGloves", name := "count", desc := "(I)I" } : Jvm.MethodName)) ∈ gtbl := mg (mm_4 (List.mem_of_getElem? (i := 109) rfl)) rfl
set_option maxRecDepth 20000 in
theorem m_4_110 : (Jvm.Cond.code ({ cls := "DrawerGloves", name := "count", desc := "(I)I" } : Jvm.MethodName) prog_1_method_40_code (2 : Nat) (Option.some Jvm.ClassFile.FieldType.int)) ∈ gtbl := mg (mm_4 (List.mem_of_getElem? (i := 110) rfl)) rfl
set_option maxRecDepth 20000 in
theorem m_4_111 : (Jvm.Cond.methodLink "DrawerGloves" (325 : Nat) ({ cls := "DrawerGloves$Drawer", name := "allWear", desc := "()I" } : Jvm.MethodName)) ∈ gtbl := mg (mm_4 (List.mem_of_getElem? (i := 111) rfl)) rfl
set_option maxRecDepth 20000 in
theorem m_4_112 : (Jvm.Cond.instanceMethod ({ cls := "DrawerGloves$Drawer", name := "allWear", desc := "()I" } : Jvm.MethodName)) ∈ gtbl := mg (mm_4 (List.mem_of_getElem? (i := 112) rfl)) rfl
set_option maxRecDepth 20000 in
theorem m_4_113 : (Jvm.Cond.selects "DrawerGloves$Drawer" ({ cls := "DrawerGloves$Drawer", name := "allWear", desc := "()I" } : Jvm.MethodName) ({ cls := "DrawerGloves$Drawer", name := "allWear", desc := "()I" } : Jvm.MethodName)) ∈ gtbl := mg (mm_4 (List.mem_of_getElem? (i := 113) rfl)) rfl
set_option maxRecDepth 20000 in
theorem m_4_114 : (Jvm.Cond.code ({ cls := "DrawerGloves$Drawer", name := "allWear", desc := "()I" } : Jvm.MethodName) prog_5_method_10_code (3 : Nat) (Option.some Jvm.ClassFile.FieldType.int)) ∈ gtbl := mg (mm_4 (List.mem_of_getElem? (i := 114) rfl)) rfl
set_option maxRecDepth 20000 in
theorem m_4_115 : (Jvm.Cond.methodLink "DrawerGloves" (328 : Nat) ({ cls := "DrawerGloves$Drawer", name := "howManyOf", desc := "(I)I" } : Jvm.MethodName)) ∈ gtbl := mg (mm_4 (List.mem_of_getElem? (i := 115) rfl)) rfl
set_option maxRecDepth 20000 in
theorem m_4_116 : (Jvm.Cond.instanceMethod ({ cls := "DrawerGloves$Drawer", name := "howManyOf", desc := "(I)I" } : Jvm.MethodName)) ∈ gtbl := mg (mm_4 (List.mem_of_getElem? (i := 116) rfl)) rfl
set_option maxRecDepth 20000 in
theorem m_4_117 : (Jvm.Cond.selects "DrawerGloves$Drawer" ({ cls := "DrawerGloves$Drawer", name := "howManyOf", desc := "(I)I" } : Jvm.MethodName) ({ cls := "DrawerGloves$Drawer", name := "howManyOf", desc := "(I)I" } : Jvm.MethodName)) ∈ gtbl := mg (mm_4 (List.mem_of_getElem? (i := 117) rfl)) rfl
set_option maxRecDepth 20000 in
theorem m_4_118 : (Jvm.Cond.code ({ cls := "DrawerGloves$Drawer", name := "howManyOf", desc := "(I)I" } : Jvm.MethodName) prog_5_method_11_code (4 : Nat) (Option.some Jvm.ClassFile.FieldType.int)) ∈ gtbl := mg (mm_4 (List.mem_of_getElem? (i := 118) rfl)) rfl
set_option maxRecDepth 20000 in
theorem m_4_119 : (Jvm.Cond.methodLink "DrawerGloves$Drawer" (87 : Nat) ({ cls := "DrawerGloves$Glove", name := "isOf", desc := "(I)Z" } : Jvm.MethodName)) ∈ gtbl := mg (mm_4 (List.mem_of_getElem? (i := 119) rfl)) rfl
set_option maxRecDepth 20000 in
theorem m_4_120 : (Jvm.Cond.methodLink "DrawerGloves" (331 : Nat) ({ cls := "DrawerGloves$Rows", name := "howManyThere", desc := "()I" } : Jvm.MethodName)) ∈ gtbl := mg (mm_4 (List.mem_of_getElem? (i := 120) rfl)) rfl
set_option maxRecDepth 20000 in
theorem m_4_121 : (Jvm.Cond.instanceMethod ({ cls := "DrawerGloves$Rows", name := "howManyThere", desc := "()I" } : Jvm.MethodName)) ∈ gtbl := mg (mm_4 (List.mem_of_getElem? (i := 121) rfl)) rfl
set_option maxRecDepth 20000 in
theorem m_4_122 : (Jvm.Cond.selects "DrawerGloves$Rows" ({ cls := "DrawerGloves$Rows", name := "howManyThere", desc := "()I" } : Jvm.MethodName) ({ cls := "DrawerGloves$Rows", name := "howManyThere", desc := "()I" } : Jvm.MethodName)) ∈ gtbl := mg (mm_4 (List.mem_of_getElem? (i := 122) rfl)) rfl
set_option maxRecDepth 20000 in
theorem m_4_123 : (Jvm.Cond.code ({ cls := "DrawerGloves$Rows", name := "howManyThere", desc := "()I" } : Jvm.MethodName) prog_11_method_13_code (3 : Nat) (Option.some Jvm.ClassFile.FieldType.int)) ∈ gtbl := mg (mm_4 (List.mem_of_getElem? (i := 123) rfl)) rfl
set_option maxRecDepth 20000 in
theorem m_4_124 : (Jvm.Cond.methodLink "DrawerGloves$Rows" (58 : Nat) ({ cls := "DrawerGloves$Rows", name := "isThere", desc := "(I)Z" } : Jvm.MethodName)) ∈ gtbl := mg (mm_4 (List.mem_of_getElem? (i := 124) rfl)) rfl
set_option maxRecDepth 20000 in
theorem m_4_125 : (Jvm.Cond.methodLink "DrawerGloves" (334 : Nat) ({ cls := "DrawerGloves", name := "howManyKept", desc := "()I" } : Jvm.MethodName)) ∈ gtbl := mg (mm_4 (List.mem_of_getElem? (i := 125) rfl)) rfl
set_option maxRecDepth 20000 in
theorem m_4_127 : (Jvm.Cond.instanceMethod ({ cls := "DrawerGloves", name := "howManyKept", desc := "()I" } : Jvm.MethodName)) ∈ gtbl := mg (mm_4 (List.mem_of_getElem? (i := 127) rfl)) rfl
set_option maxRecDepth 20000 in
theorem m_4_128 : (Jvm.Cond.code ({ cls := "DrawerGloves", name := "howManyKept", desc := "()I" } : Jvm.MethodName) prog_1_method_51_code (3 : Nat) (Option.some Jvm.ClassFile.FieldType.int)) ∈ gtbl := mg (mm_4 (List.mem_of_getElem? (i := 128) rfl)) rfl
set_option maxRecDepth 20000 in
theorem m_4_129 : (Jvm.Cond.methodLink "DrawerGlovesLaw" (175 : Nat) ({ cls := "DrawerGloves", name := "finding", desc := "()I" } : Jvm.MethodName)) ∈ gtbl := mg (mm_4 (List.mem_of_getElem? (i := 129) rfl)) rfl
set_option maxRecDepth 20000 in
theorem m_4_130 : (Jvm.Cond.instanceMethod ({ cls := "DrawerGloves", name := "finding", desc := "()I" } : Jvm.MethodName)) ∈ gtbl := mg (mm_4 (List.mem_of_getElem? (i := 130) rfl)) rfl
set_option maxRecDepth 20000 in
theorem m_4_131 : (Jvm.Cond.selects "DrawerGloves" ({ cls := "DrawerGloves", name := "finding", desc := "()I" } : Jvm.MethodName) ({ cls := "DrawerGloves", name := "finding", desc := "()I" } : Jvm.MethodName)) ∈ gtbl := mg (mm_4 (List.mem_of_getElem? (i := 131) rfl)) rfl
set_option maxRecDepth 20000 in
theorem m_4_132 : (Jvm.Cond.code ({ cls := "DrawerGloves", name := "finding", desc := "()I" } : Jvm.MethodName) prog_1_method_41_code (1 : Nat) (Option.some Jvm.ClassFile.FieldType.int)) ∈ gtbl := mg (mm_4 (List.mem_of_getElem? (i := 132) rfl)) rfl
set_option maxRecDepth 20000 in
theorem m_4_133 : (Jvm.Cond.methodLink "DrawerGlovesLaw" (179 : Nat) ({ cls := "DrawerGloves", name := "findings", desc := "(I)I" } : Jvm.MethodName)) ∈ gtbl := mg (mm_4 (List.mem_of_getElem? (i := 133) rfl)) rfl
set_option maxRecDepth 20000 in
theorem m_4_134 : (Jvm.Cond.instanceMethod ({ cls := "DrawerGloves", name := "findings", desc := "(I)I" } : Jvm.MethodName)) ∈ gtbl := mg (mm_4 (List.mem_of_getElem? (i := 134) rfl)) rfl
set_option maxRecDepth 20000 in
theorem m_4_135 : (Jvm.Cond.selects "DrawerGloves" ({ cls := "DrawerGloves", name := "findings", desc := "(I)I" } : Jvm.MethodName) ({ cls := "DrawerGloves", name := "findings", desc := "(I)I" } : Jvm.MethodName)) ∈ gtbl := mg (mm_4 (List.mem_of_getElem? (i := 135) rfl)) rfl
set_option maxRecDepth 20000 in
theorem m_4_136 : (Jvm.Cond.code ({ cls := "DrawerGloves", name := "findings", desc := "(I)I" } : Jvm.MethodName) prog_1_method_42_code (2 : Nat) (Option.some Jvm.ClassFile.FieldType.int)) ∈ gtbl := mg (mm_4 (List.mem_of_getElem? (i := 136) rfl)) rfl
set_option maxRecDepth 20000 in
theorem m_4_137 : (Jvm.Cond.methodLink "DrawerGlovesLaw" (183 : Nat) ({ cls := "DrawerGloves", name := "digest", desc := "()J" } : Jvm.MethodName)) ∈ gtbl := mg (mm_4 (List.mem_of_getElem? (i := 137) rfl)) rfl
set_option maxRecDepth 20000 in
theorem m_4_138 : (Jvm.Cond.instanceMethod ({ cls := "DrawerGloves", name := "digest", desc := "()J" } : Jvm.MethodName)) ∈ gtbl := mg (mm_4 (List.mem_of_getElem? (i := 138) rfl)) rfl
set_option maxRecDepth 20000 in
theorem m_4_139 : (Jvm.Cond.selects "DrawerGloves" ({ cls := "DrawerGloves", name := "digest", desc := "()J" } : Jvm.MethodName) ({ cls := "DrawerGloves", name := "digest", desc := "()J" } : Jvm.MethodName)) ∈ gtbl := mg (mm_4 (List.mem_of_getElem? (i := 139) rfl)) rfl
set_option maxRecDepth 20000 in
theorem m_4_140 : (Jvm.Cond.code ({ cls := "DrawerGloves", name := "digest", desc := "()J" } : Jvm.MethodName) prog_1_method_43_code (5 : Nat) (Option.some Jvm.ClassFile.FieldType.long)) ∈ gtbl := mg (mm_4 (List.mem_of_getElem? (i := 140) rfl)) rfl
set_option maxRecDepth 20000 in
theorem m_4_141 : (Jvm.Cond.constantLong "DrawerGloves" (337 : Nat) (17 : Int64)) ∈ gtbl := mg (mm_4 (List.mem_of_getElem? (i := 141) rfl)) rfl
set_option maxRecDepth 20000 in
theorem m_4_142 : (Jvm.Cond.constantLong "DrawerGloves" (339 : Nat) (31 : Int64)) ∈ gtbl := mg (mm_4 (List.mem_of_getElem? (i := 142) rfl)) rfl
set_option maxRecDepth 20000 in
theorem m_4_143 : (Jvm.Cond.methodLink "DrawerGloves" (341 : Nat) ({ cls := "DrawerGloves", name := "count", desc := "(I)I" } : Jvm.MethodName)) ∈ gtbl := mg (mm_4 (List.mem_of_getElem? (i := 143) rfl)) rfl
set_option maxRecDepth 20000 in
theorem m_4_144 : (Jvm.Cond.methodLink "DrawerGloves" (344 : Nat) ({ cls := "DrawerGloves$Rows", name := "digestOn", desc := "(J)J" } : Jvm.MethodName)) ∈ gtbl := mg (mm_4 (List.mem_of_getElem? (i := 144) rfl)) rfl
set_option maxRecDepth 20000 in
theorem m_4_145 : (Jvm.Cond.instanceMethod ({ cls := "DrawerGloves$Rows", name := "digestOn", desc := "(J)J" } : Jvm.MethodName)) ∈ gtbl := mg (mm_4 (List.mem_of_getElem? (i := 145) rfl)) rfl
set_option maxRecDepth 20000 in
theorem m_4_146 : (Jvm.Cond.selects "DrawerGloves$Rows" ({ cls := "DrawerGloves$Rows", name := "digestOn", desc := "(J)J" } : Jvm.MethodName) ({ cls := "DrawerGloves$Rows", name := "digestOn", desc := "(J)J" } : Jvm.MethodName)) ∈ gtbl := mg (mm_4 (List.mem_of_getElem? (i := 146) rfl)) rfl
set_option maxRecDepth 20000 in
theorem m_4_147 : (Jvm.Cond.code ({ cls := "DrawerGloves$Rows", name := "digestOn", desc := "(J)J" } : Jvm.MethodName) prog_11_method_14_code (5 : Nat) (Option.some Jvm.ClassFile.FieldType.long)) ∈ gtbl := mg (mm_4 (List.mem_of_getElem? (i := 147) rfl)) rfl
set_option maxRecDepth 20000 in
theorem m_4_148 : (Jvm.Cond.constantLong "DrawerGloves$Rows" (61 : Nat) (31 : Int64)) ∈ gtbl := mg (mm_4 (List.mem_of_getElem? (i := 148) rfl)) rfl
set_option maxRecDepth 20000 in
theorem m_4_149 : (Jvm.Cond.classLink "DrawerGlovesLaw" (10 : Nat) "DrawerGlovesModel") ∈ gtbl := mg (mm_4 (List.mem_of_getElem? (i := 149) rfl)) rfl
set_option maxRecDepth 20000 in
theorem m_4_150 : (Jvm.Cond.instantiable "DrawerGlovesModel" (36 : Nat)) ∈ gtbl := mg (mm_4 (List.mem_of_getElem? (i := 150) rfl)) rfl
set_option maxRecDepth 20000 in
theorem m_4_151 : (Jvm.Cond.methodLink "DrawerGlovesLaw" (12 : Nat) ({ cls := "DrawerGlovesModel", name := "<init>", desc := "()V" } : Jvm.MethodName)) ∈ gtbl := mg (mm_4 (List.mem_of_getElem? (i := 151) rfl)) rfl
set_option maxRecDepth 20000 in
theorem m_4_152 : (Jvm.Cond.instanceMethod ({ cls := "DrawerGlovesModel", name := "<init>", desc := "()V" } : Jvm.MethodName)) ∈ gtbl := mg (mm_4 (List.mem_of_getElem? (i := 152) rfl)) rfl
set_option maxRecDepth 20000 in
theorem m_4_153 : (Jvm.Cond.code ({ cls := "DrawerGlovesModel", name := "<init>", desc := "()V" } : Jvm.MethodName) prog_13_method_1_code (2 : Nat) (Option.none : Option Jvm.ClassFile.FieldType)) ∈ gtbl := mg (mm_4 (List.mem_of_getElem? (i := 153) rfl)) rfl
set_option maxRecDepth 20000 in
theorem m_4_154 : (Jvm.Cond.methodLink "DrawerGlovesModel" (1 : Nat) ({ cls := "java/lang/Object", name := "<init>", desc := "()V" } : Jvm.MethodName)) ∈ gtbl := mg (mm_4 (List.mem_of_getElem? (i := 154) rfl)) rfl
set_option maxRecDepth 20000 in
theorem m_4_155 : (Jvm.Cond.fieldLink "DrawerGlovesModel" (88 : Nat) "DrawerGlovesModel" "asked" "I") ∈ gtbl := mg (mm_4 (List.mem_of_getElem? (i := 155) rfl)) rfl
set_option maxRecDepth 20000 in
theorem m_4_156 : (Jvm.Cond.fieldLink "DrawerGlovesModel" (91 : Nat) "DrawerGlovesModel" "up" "J") ∈ gtbl := mg (mm_4 (List.mem_of_getElem? (i := 156) rfl)) rfl
set_option maxRecDepth 20000 in
theorem m_4_157 : (Jvm.Cond.fieldLink "DrawerGlovesModel" (80 : Nat) "DrawerGlovesModel" "down" "J") ∈ gtbl := mg (mm_4 (List.mem_of_getElem? (i := 157) rfl)) rfl
set_option maxRecDepth 20000 in
theorem m_4_158 : (Jvm.Cond.fieldLink "DrawerGlovesModel" (84 : Nat) "DrawerGlovesModel" "latest" "I") ∈ gtbl := mg (mm_4 (List.mem_of_getElem? (i := 158) rfl)) rfl
set_option maxRecDepth 20000 in
theorem m_4_159 : (Jvm.Cond.fieldLink "DrawerGlovesModel" (7 : Nat) "DrawerGlovesModel" "found" "[I") ∈ gtbl := mg (mm_4 (List.mem_of_getElem? (i := 159) rfl)) rfl
set_option maxRecDepth 20000 in
theorem m_4_160 : (Jvm.Cond.fieldLink "DrawerGlovesModel" (13 : Nat) "DrawerGlovesModel" "cells" "[I") ∈ gtbl := mg (mm_4 (List.mem_of_getElem? (i := 160) rfl)) rfl
set_option maxRecDepth 20000 in
theorem m_4_161 : (Jvm.Cond.fieldLink "DrawerGlovesModel" (16 : Nat) "DrawerGlovesModel" "rowSize" "[I") ∈ gtbl := mg (mm_4 (List.mem_of_getElem? (i := 161) rfl)) rfl
set_option maxRecDepth 20000 in
theorem m_4_162 : (Jvm.Cond.fieldLink "DrawerGlovesModel" (19 : Nat) "DrawerGlovesModel" "bytes" "[B") ∈ gtbl := mg (mm_4 (List.mem_of_getElem? (i := 162) rfl)) rfl
set_option maxRecDepth 20000 in
theorem m_4_163 : (Jvm.Cond.fieldLink "DrawerGlovesModel" (23 : Nat) "DrawerGlovesModel" "textSize" "[I") ∈ gtbl := mg (mm_4 (List.mem_of_getElem? (i := 163) rfl)) rfl
set_option maxRecDepth 20000 in
theorem m_4_164 : (Jvm.Cond.fieldLink "DrawerGlovesModel" (26 : Nat) "DrawerGlovesModel" "taken" "[I") ∈ gtbl := mg (mm_4 (List.mem_of_getElem? (i := 164) rfl)) rfl
set_option maxRecDepth 20000 in
theorem m_4_165 : (Jvm.Cond.fieldLink "DrawerGlovesModel" (142 : Nat) "DrawerGlovesModel" "draftRoom" "I") ∈ gtbl := mg (mm_4 (List.mem_of_getElem? (i := 165) rfl)) rfl
set_option maxRecDepth 20000 in
theorem m_4_166 : (Jvm.Cond.fieldLink "DrawerGlovesModel" (132 : Nat) "DrawerGlovesModel" "draftGloves" "I") ∈ gtbl := mg (mm_4 (List.mem_of_getElem? (i := 166) rfl)) rfl
set_option maxRecDepth 20000 in
theorem m_4_167 : (Jvm.Cond.fieldLink "DrawerGlovesModel" (29 : Nat) "DrawerGlovesModel" "draftKind" "[I") ∈ gtbl := mg (mm_4 (List.mem_of_getElem? (i := 167) rfl)) rfl
set_option maxRecDepth 20000 in
theorem m_4_168 : (Jvm.Cond.fieldLink "DrawerGlovesModel" (32 : Nat) "DrawerGlovesModel" "draftSort" "[I") ∈ gtbl := mg (mm_4 (List.mem_of_getElem? (i := 168) rfl)) rfl
set_option maxRecDepth 20000 in
theorem m_4_169 : (Jvm.Cond.fieldLink "DrawerGlovesModel" (35 : Nat) "DrawerGlovesModel" "draftHand" "[I") ∈ gtbl := mg (mm_4 (List.mem_of_getElem? (i := 169) rfl)) rfl
set_option maxRecDepth 20000 in
theorem m_4_170 : (Jvm.Cond.fieldLink "DrawerGlovesModel" (38 : Nat) "DrawerGlovesModel" "draftWarm" "[I") ∈ gtbl := mg (mm_4 (List.mem_of_getElem? (i := 170) rfl)) rfl
set_option maxRecDepth 20000 in
theorem m_4_171 : (Jvm.Cond.fieldLink "DrawerGlovesModel" (119 : Nat) "DrawerGlovesModel" "reading" "I") ∈ gtbl := mg (mm_4 (List.mem_of_getElem? (i := 171) rfl)) rfl
set_option maxRecDepth 20000 in
theorem m_4_172 : (Jvm.Cond.fieldLink "DrawerGlovesModel" (116 : Nat) "DrawerGlovesModel" "place" "I") ∈ gtbl := mg (mm_4 (List.mem_of_getElem? (i := 172) rfl)) rfl
set_option maxRecDepth 20000 in
theorem m_4_173 : (Jvm.Cond.fieldLink "DrawerGlovesModel" (126 : Nat) "DrawerGlovesModel" "fault" "I") ∈ gtbl := mg (mm_4 (List.mem_of_getElem? (i := 173) rfl)) rfl
set_option maxRecDepth 20000 in
theorem m_4_174 : (Jvm.Cond.fieldLink "DrawerGlovesModel" (152 : Nat) "DrawerGlovesModel" "room" "I") ∈ gtbl := mg (mm_4 (List.mem_of_getElem? (i := 174) rfl)) rfl
set_option maxRecDepth 20000 in
theorem m_4_175 : (Jvm.Cond.fieldLink "DrawerGlovesModel" (155 : Nat) "DrawerGlovesModel" "gloves" "I") ∈ gtbl := mg (mm_4 (List.mem_of_getElem? (i := 175) rfl)) rfl
set_option maxRecDepth 20000 in
theorem m_4_176 : (Jvm.Cond.fieldLink "DrawerGlovesModel" (41 : Nat) "DrawerGlovesModel" "kind" "[I") ∈ gtbl := mg (mm_4 (List.mem_of_getElem? (i := 176) rfl)) rfl
set_option maxRecDepth 20000 in
theorem m_4_177 : (Jvm.Cond.fieldLink "DrawerGlovesModel" (44 : Nat) "DrawerGlovesModel" "sort" "[I") ∈ gtbl := mg (mm_4 (List.mem_of_getElem? (i := 177) rfl)) rfl
set_option maxRecDepth 20000 in
theorem m_4_178 : (Jvm.Cond.fieldLink "DrawerGlovesModel" (47 : Nat) "DrawerGlovesModel" "hand" "[I") ∈ gtbl := mg (mm_4 (List.mem_of_getElem? (i := 178) rfl)) rfl
set_option maxRecDepth 20000 in
theorem m_4_179 : (Jvm.Cond.fieldLink "DrawerGlovesModel" (50 : Nat) "DrawerGlovesModel" "warm" "[I") ∈ gtbl := mg (mm_4 (List.mem_of_getElem? (i := 179) rfl)) rfl
set_option maxRecDepth 20000 in
theorem m_4_180 : (Jvm.Cond.fieldLink "DrawerGlovesModel" (53 : Nat) "DrawerGlovesModel" "where" "[I") ∈ gtbl := mg (mm_4 (List.mem_of_getElem? (i := 180) rfl)) rfl
set_option maxRecDepth 20000 in
theorem m_4_181 : (Jvm.Cond.fieldLink "DrawerGlovesModel" (56 : Nat) "DrawerGlovesModel" "worn" "[I") ∈ gtbl := mg (mm_4 (List.mem_of_getElem? (i := 181) rfl)) rfl
set_option maxRecDepth 20000 in
theorem m_4_182 : (Jvm.Cond.fieldLink "DrawerGlovesModel" (158 : Nat) "DrawerGlovesModel" "deeds" "I") ∈ gtbl := mg (mm_4 (List.mem_of_getElem? (i := 182) rfl)) rfl
set_option maxRecDepth 20000 in
theorem m_4_183 : (Jvm.Cond.fieldLink "DrawerGlovesModel" (59 : Nat) "DrawerGlovesModel" "deed" "[I") ∈ gtbl := mg (mm_4 (List.mem_of_getElem? (i := 183) rfl)) rfl
set_option maxRecDepth 20000 in
theorem m_4_184 : (Jvm.Cond.fieldLink "DrawerGlovesModel" (62 : Nat) "DrawerGlovesModel" "keptDeeds" "[I") ∈ gtbl := mg (mm_4 (List.mem_of_getElem? (i := 184) rfl)) rfl
set_option maxRecDepth 20000 in
theorem m_4_185 : (Jvm.Cond.fieldLink "DrawerGlovesModel" (65 : Nat) "DrawerGlovesModel" "keptDeed" "[I") ∈ gtbl := mg (mm_4 (List.mem_of_getElem? (i := 185) rfl)) rfl
set_option maxRecDepth 20000 in
theorem m_4_186 : (Jvm.Cond.fieldLink "DrawerGlovesModel" (68 : Nat) "DrawerGlovesModel" "best" "[I") ∈ gtbl := mg (mm_4 (List.mem_of_getElem? (i := 186) rfl)) rfl
set_option maxRecDepth 20000 in
theorem m_4_187 : (Jvm.Cond.fieldLink "DrawerGlovesModel" (71 : Nat) "DrawerGlovesModel" "most" "[I") ∈ gtbl := mg (mm_4 (List.mem_of_getElem? (i := 187) rfl)) rfl
set_option maxRecDepth 20000 in
theorem m_4_188 : (Jvm.Cond.fieldLink "DrawerGlovesModel" (74 : Nat) "DrawerGlovesModel" "twos" "[I") ∈ gtbl := mg (mm_4 (List.mem_of_getElem? (i := 188) rfl)) rfl
set_option maxRecDepth 20000 in
theorem m_4_189 : (Jvm.Cond.fieldLink "DrawerGlovesModel" (215 : Nat) "DrawerGlovesModel" "many" "I") ∈ gtbl := mg (mm_4 (List.mem_of_getElem? (i := 189) rfl)) rfl
set_option maxRecDepth 20000 in
theorem m_4_190 : (Jvm.Cond.fieldLink "DrawerGlovesModel" (77 : Nat) "DrawerGlovesModel" "worth" "[I") ∈ gtbl := mg (mm_4 (List.mem_of_getElem? (i := 190) rfl)) rfl
set_option maxRecDepth 20000 in
theorem m_4_191 : (Jvm.Cond.lays "DrawerGlovesModel" "DrawerGlovesModel" "asked" "I") ∈ gtbl := mg (mm_4 (List.mem_of_getElem? (i := 191) rfl)) rfl
set_option maxRecDepth 20000 in
theorem m_4_193 : (Jvm.Cond.lays "DrawerGlovesModel" "DrawerGlovesModel" "up" "J") ∈ gtbl := mg (mm_4 (List.mem_of_getElem? (i := 193) rfl)) rfl
set_option maxRecDepth 20000 in
theorem m_4_195 : (Jvm.Cond.lays "DrawerGlovesModel" "DrawerGlovesModel" "down" "J") ∈ gtbl := mg (mm_4 (List.mem_of_getElem? (i := 195) rfl)) rfl
set_option maxRecDepth 20000 in
theorem m_4_197 : (Jvm.Cond.lays "DrawerGlovesModel" "DrawerGlovesModel" "latest" "I") ∈ gtbl := mg (mm_4 (List.mem_of_getElem? (i := 197) rfl)) rfl
set_option maxRecDepth 20000 in
theorem m_4_199 : (Jvm.Cond.laysFinal "DrawerGlovesModel" "DrawerGlovesModel" "found" "[I") ∈ gtbl := mg (mm_4 (List.mem_of_getElem? (i := 199) rfl)) rfl
set_option maxRecDepth 20000 in
theorem m_4_201 : (Jvm.Cond.laysFinal "DrawerGlovesModel" "DrawerGlovesModel" "cells" "[I") ∈ gtbl := mg (mm_4 (List.mem_of_getElem? (i := 201) rfl)) rfl
set_option maxRecDepth 20000 in
theorem m_4_203 : (Jvm.Cond.laysFinal "DrawerGlovesModel" "DrawerGlovesModel" "rowSize" "[I") ∈ gtbl := mg (mm_4 (List.mem_of_getElem? (i := 203) rfl)) rfl
set_option maxRecDepth 20000 in
theorem m_4_205 : (Jvm.Cond.laysFinal "DrawerGlovesModel" "DrawerGlovesModel" "bytes" "[B") ∈ gtbl := mg (mm_4 (List.mem_of_getElem? (i := 205) rfl)) rfl
set_option maxRecDepth 20000 in
theorem m_4_207 : (Jvm.Cond.laysFinal "DrawerGlovesModel" "DrawerGlovesModel" "textSize" "[I") ∈ gtbl := mg (mm_4 (List.mem_of_getElem? (i := 207) rfl)) rfl
set_option maxRecDepth 20000 in
theorem m_4_209 : (Jvm.Cond.laysFinal "DrawerGlovesModel" "DrawerGlovesModel" "taken" "[I") ∈ gtbl := mg (mm_4 (List.mem_of_getElem? (i := 209) rfl)) rfl
set_option maxRecDepth 20000 in
theorem m_4_211 : (Jvm.Cond.lays "DrawerGlovesModel" "DrawerGlovesModel" "draftRoom" "I") ∈ gtbl := mg (mm_4 (List.mem_of_getElem? (i := 211) rfl)) rfl
set_option maxRecDepth 20000 in
theorem m_4_213 : (Jvm.Cond.lays "DrawerGlovesModel" "DrawerGlovesModel" "draftGloves" "I") ∈ gtbl := mg (mm_4 (List.mem_of_getElem? (i := 213) rfl)) rfl
set_option maxRecDepth 20000 in
theorem m_4_215 : (Jvm.Cond.laysFinal "DrawerGlovesModel" "DrawerGlovesModel" "draftKind" "[I") ∈ gtbl := mg (mm_4 (List.mem_of_getElem? (i := 215) rfl)) rfl
set_option maxRecDepth 20000 in
theorem m_4_217 : (Jvm.Cond.laysFinal "DrawerGlovesModel" "DrawerGlovesModel" "draftSort" "[I") ∈ gtbl := mg (mm_4 (List.mem_of_getElem? (i := 217) rfl)) rfl
set_option maxRecDepth 20000 in
theorem m_4_219 : (Jvm.Cond.laysFinal "DrawerGlovesModel" "DrawerGlovesModel" "draftHand" "[I") ∈ gtbl := mg (mm_4 (List.mem_of_getElem? (i := 219) rfl)) rfl
set_option maxRecDepth 20000 in
theorem m_4_221 : (Jvm.Cond.laysFinal "DrawerGlovesModel" "DrawerGlovesModel" "draftWarm" "[I") ∈ gtbl := mg (mm_4 (List.mem_of_getElem? (i := 221) rfl)) rfl
set_option maxRecDepth 20000 in
theorem m_4_223 : (Jvm.Cond.lays "DrawerGlovesModel" "DrawerGlovesModel" "reading" "I") ∈ gtbl := mg (mm_4 (List.mem_of_getElem? (i := 223) rfl)) rfl
set_option maxRecDepth 20000 in
theorem m_4_225 : (Jvm.Cond.lays "DrawerGlovesModel" "DrawerGlovesModel" "place" "I") ∈ gtbl := mg (mm_4 (List.mem_of_getElem? (i := 225) rfl)) rfl
set_option maxRecDepth 20000 in
theorem m_4_227 : (Jvm.Cond.lays "DrawerGlovesModel" "DrawerGlovesModel" "fault" "I") ∈ gtbl := mg (mm_4 (List.mem_of_getElem? (i := 227) rfl)) rfl
set_option maxRecDepth 20000 in
theorem m_4_229 : (Jvm.Cond.lays "DrawerGlovesModel" "DrawerGlovesModel" "room" "I") ∈ gtbl := mg (mm_4 (List.mem_of_getElem? (i := 229) rfl)) rfl
set_option maxRecDepth 20000 in
theorem m_4_231 : (Jvm.Cond.lays "DrawerGlovesModel" "DrawerGlovesModel" "gloves" "I") ∈ gtbl := mg (mm_4 (List.mem_of_getElem? (i := 231) rfl)) rfl
set_option maxRecDepth 20000 in
theorem m_4_233 : (Jvm.Cond.laysFinal "DrawerGlovesModel" "DrawerGlovesModel" "kind" "[I") ∈ gtbl := mg (mm_4 (List.mem_of_getElem? (i := 233) rfl)) rfl
set_option maxRecDepth 20000 in
theorem m_4_235 : (Jvm.Cond.laysFinal "DrawerGlovesModel" "DrawerGlovesModel" "sort" "[I") ∈ gtbl := mg (mm_4 (List.mem_of_getElem? (i := 235) rfl)) rfl
set_option maxRecDepth 20000 in
theorem m_4_237 : (Jvm.Cond.laysFinal "DrawerGlovesModel" "DrawerGlovesModel" "hand" "[I") ∈ gtbl := mg (mm_4 (List.mem_of_getElem? (i := 237) rfl)) rfl
set_option maxRecDepth 20000 in
theorem m_4_239 : (Jvm.Cond.laysFinal "DrawerGlovesModel" "DrawerGlovesModel" "warm" "[I") ∈ gtbl := mg (mm_4 (List.mem_of_getElem? (i := 239) rfl)) rfl
set_option maxRecDepth 20000 in
theorem m_5_1 : (Jvm.Cond.laysFinal "DrawerGlovesModel" "DrawerGlovesModel" "where" "[I") ∈ gtbl := mg (mm_5 (List.mem_of_getElem? (i := 1) rfl)) rfl
set_option maxRecDepth 20000 in
theorem m_5_3 : (Jvm.Cond.laysFinal "DrawerGlovesModel" "DrawerGlovesModel" "worn" "[I") ∈ gtbl := mg (mm_5 (List.mem_of_getElem? (i := 3) rfl)) rfl
set_option maxRecDepth 20000 in
theorem m_5_5 : (Jvm.Cond.lays "DrawerGlovesModel" "DrawerGlovesModel" "deeds" "I") ∈ gtbl := mg (mm_5 (List.mem_of_getElem? (i := 5) rfl)) rfl
set_option maxRecDepth 20000 in
theorem m_5_7 : (Jvm.Cond.laysFinal "DrawerGlovesModel" "DrawerGlovesModel" "deed" "[I") ∈ gtbl := mg (mm_5 (List.mem_of_getElem? (i := 7) rfl)) rfl
set_option maxRecDepth 20000 in
theorem m_5_9 : (Jvm.Cond.laysFinal "DrawerGlovesModel" "DrawerGlovesModel" "keptDeeds" "[I") ∈ gtbl := mg (mm_5 (List.mem_of_getElem? (i := 9) rfl)) rfl
set_option maxRecDepth 20000 in
theorem m_5_11 : (Jvm.Cond.laysFinal "DrawerGlovesModel" "DrawerGlovesModel" "keptDeed" "[I") ∈ gtbl := mg (mm_5 (List.mem_of_getElem? (i := 11) rfl)) rfl
set_option maxRecDepth 20000 in
theorem m_5_13 : (Jvm.Cond.laysFinal "DrawerGlovesModel" "DrawerGlovesModel" "best" "[I") ∈ gtbl := mg (mm_5 (List.mem_of_getElem? (i := 13) rfl)) rfl
set_option maxRecDepth 20000 in
theorem m_5_15 : (Jvm.Cond.laysFinal "DrawerGlovesModel" "DrawerGlovesModel" "most" "[I") ∈ gtbl := mg (mm_5 (List.mem_of_getElem? (i := 15) rfl)) rfl
set_option maxRecDepth 20000 in
theorem m_5_17 : (Jvm.Cond.laysFinal "DrawerGlovesModel" "DrawerGlovesModel" "twos" "[I") ∈ gtbl := mg (mm_5 (List.mem_of_getElem? (i := 17) rfl)) rfl
set_option maxRecDepth 20000 in
theorem m_5_19 : (Jvm.Cond.lays "DrawerGlovesModel" "DrawerGlovesModel" "many" "I") ∈ gtbl := mg (mm_5 (List.mem_of_getElem? (i := 19) rfl)) rfl
set_option maxRecDepth 20000 in
theorem m_5_21 : (Jvm.Cond.laysFinal "DrawerGlovesModel" "DrawerGlovesModel" "worth" "[I") ∈ gtbl := mg (mm_5 (List.mem_of_getElem? (i := 21) rfl)) rfl
set_option maxRecDepth 20000 in
theorem m_5_24 : (Jvm.Cond.arrayClass Jvm.ClassFile.FieldType.byte) ∈ gtbl := mg (mm_5 (List.mem_of_getElem? (i := 24) rfl)) rfl
set_option maxRecDepth 20000 in
theorem m_5_25 : (Jvm.Cond.methodLink "DrawerGlovesLaw" (17 : Nat) ({ cls := "DrawerGlovesModel", name := "row", desc := "(II)I" } : Jvm.MethodName)) ∈ gtbl := mg (mm_5 (List.mem_of_getElem? (i := 25) rfl)) rfl
set_option maxRecDepth 20000 in
theorem m_5_26 : (Jvm.Cond.instanceMethod ({ cls := "DrawerGlovesModel", name := "row", desc := "(II)I" } : Jvm.MethodName)) ∈ gtbl := mg (mm_5 (List.mem_of_getElem? (i := 26) rfl)) rfl
set_option maxRecDepth 20000 in
theorem m_5_27 : (Jvm.Cond.selects "DrawerGlovesModel" ({ cls := "DrawerGlovesModel", name := "row", desc := "(II)I" } : Jvm.MethodName) ({ cls := "DrawerGlovesModel", name := "row", desc := "(II)I" } : Jvm.MethodName)) ∈ gtbl := mg (mm_5 (List.mem_of_getElem? (i := 27) rfl)) rfl
set_option maxRecDepth 20000 in
theorem m_5_28 : (Jvm.Cond.code ({ cls := "DrawerGlovesModel", name := "row", desc := "(II)I" } : Jvm.MethodName) prog_13_method_9_code (3 : Nat) (Option.some Jvm.ClassFile.FieldType.int)) ∈ gtbl := mg (mm_5 (List.mem_of_getElem? (i := 28) rfl)) rfl
set_option maxRecDepth 20000 in
theorem m_5_29 : (Jvm.Cond.methodLink "DrawerGlovesModel" (98 : Nat) ({ cls := "DrawerGlovesModel", name := "isRow", desc := "(I)Z" } : Jvm.MethodName)) ∈ gtbl := mg (mm_5 (List.mem_of_getElem? (i := 29) rfl)) rfl
set_option maxRecDepth 20000 in
theorem m_5_30 : (Jvm.Cond.static ({ cls := "DrawerGlovesModel", name := "isRow", desc := "(I)Z" } : Jvm.MethodName)) ∈ gtbl := mg (mm_5 (List.mem_of_getElem? (i := 30) rfl)) rfl
set_option maxRecDepth 20000 in
theorem m_5_31 : (Jvm.Cond.code ({ cls := "DrawerGlovesModel", name := "isRow", desc := "(I)Z" } : Jvm.MethodName) prog_13_method_7_code (1 : Nat) (Option.some Jvm.ClassFile.FieldType.boolean)) ∈ gtbl := mg (mm_5 (List.mem_of_getElem? (i := 31) rfl)) rfl
set_option maxRecDepth 20000 in
theorem m_5_32 : (Jvm.Cond.methodLink "DrawerGlovesModel" (94 : Nat) ({ cls := "DrawerGlovesModel", name := "in", desc := "(III)Z" } : Jvm.MethodName)) ∈ gtbl := mg (mm_5 (List.mem_of_getElem? (i := 32) rfl)) rfl
set_option maxRecDepth 20000 in
theorem m_5_33 : (Jvm.Cond.static ({ cls := "DrawerGlovesModel", name := "in", desc := "(III)Z" } : Jvm.MethodName)) ∈ gtbl := mg (mm_5 (List.mem_of_getElem? (i := 33) rfl)) rfl
set_option maxRecDepth 20000 in
theorem m_5_34 : (Jvm.Cond.code ({ cls := "DrawerGlovesModel", name := "in", desc := "(III)Z" } : Jvm.MethodName) prog_13_method_3_code (3 : Nat) (Option.some Jvm.ClassFile.FieldType.boolean)) ∈ gtbl := mg (mm_5 (List.mem_of_getElem? (i := 34) rfl)) rfl
set_option maxRecDepth 20000 in
theorem m_5_35 : (Jvm.Cond.methodLink "DrawerGlovesModel" (102 : Nat) ({ cls := "DrawerGlovesModel", name := "refuse", desc := "(I)I" } : Jvm.MethodName)) ∈ gtbl := mg (mm_5 (List.mem_of_getElem? (i := 35) rfl)) rfl
set_option maxRecDepth 20000 in
theorem m_5_37 : (Jvm.Cond.instanceMethod ({ cls := "DrawerGlovesModel", name := "refuse", desc := "(I)I" } : Jvm.MethodName)) ∈ gtbl := mg (mm_5 (List.mem_of_getElem? (i := 37) rfl)) rfl
set_option maxRecDepth 20000 in
theorem m_5_38 : (Jvm.Cond.code ({ cls := "DrawerGlovesModel", name := "refuse", desc := "(I)I" } : Jvm.MethodName) prog_13_method_4_code (2 : Nat) (Option.some Jvm.ClassFile.FieldType.int)) ∈ gtbl := mg (mm_5 (List.mem_of_getElem? (i := 38) rfl)) rfl
set_option maxRecDepth 20000 in
theorem m_5_39 : (Jvm.Cond.methodLink "DrawerGlovesModel" (106 : Nat) ({ cls := "DrawerGlovesModel", name := "clearRow", desc := "(II)V" } : Jvm.MethodName)) ∈ gtbl := mg (mm_5 (List.mem_of_getElem? (i := 39) rfl)) rfl
set_option maxRecDepth 20000 in
theorem m_5_41 : (Jvm.Cond.instanceMethod ({ cls := "DrawerGlovesModel", name := "clearRow", desc := "(II)V" } : Jvm.MethodName)) ∈ gtbl := mg (mm_5 (List.mem_of_getElem? (i := 41) rfl)) rfl
set_option maxRecDepth 20000 in
theorem m_5_42 : (Jvm.Cond.code ({ cls := "DrawerGlovesModel", name := "clearRow", desc := "(II)V" } : Jvm.MethodName) prog_13_method_8_code (4 : Nat) (Option.none : Option Jvm.ClassFile.FieldType)) ∈ gtbl := mg (mm_5 (List.mem_of_getElem? (i := 42) rfl)) rfl
set_option maxRecDepth 20000 in
theorem m_5_43 : (Jvm.Cond.methodLink "DrawerGlovesLaw" (22 : Nat) ({ cls := "DrawerGlovesModel", name := "lay", desc := "(III)I" } : Jvm.MethodName)) ∈ gtbl := mg (mm_5 (List.mem_of_getElem? (i := 43) rfl)) rfl
set_option maxRecDepth 20000 in
theorem m_5_44 : (Jvm.Cond.instanceMethod ({ cls := "DrawerGlovesModel", name := "lay", desc := "(III)I" } : Jvm.MethodName)) ∈ gtbl := mg (mm_5 (List.mem_of_getElem? (i := 44) rfl)) rfl
set_option maxRecDepth 20000 in
theorem m_5_45 : (Jvm.Cond.selects "DrawerGlovesModel" ({ cls := "DrawerGlovesModel", name := "lay", desc := "(III)I" } : Jvm.MethodName) ({ cls := "DrawerGlovesModel", name := "lay", desc := "(III)I" } : Jvm.MethodName)) ∈ gtbl := mg (mm_5 (List.mem_of_getElem? (i := 45) rfl)) rfl
set_option maxRecDepth 20000 in
theorem m_5_46 : (Jvm.Cond.code ({ cls := "DrawerGlovesModel", name := "lay", desc := "(III)I" } : Jvm.MethodName) prog_13_method_10_code (5 : Nat) (Option.some Jvm.ClassFile.FieldType.int)) ∈ gtbl := mg (mm_5 (List.mem_of_getElem? (i := 46) rfl)) rfl
set_option maxRecDepth 20000 in
theorem m_5_47 : (Jvm.Cond.methodLink "DrawerGlovesModel" (110 : Nat) ({ cls := "DrawerGlovesModel", name := "tellsAsked", desc := "(I)I" } : Jvm.MethodName)) ∈ gtbl := mg (mm_5 (List.mem_of_getElem? (i := 47) rfl)) rfl
set_option maxRecDepth 20000 in
theorem m_5_49 : (Jvm.Cond.instanceMethod ({ cls := "DrawerGlovesModel", name := "tellsAsked", desc := "(I)I" } : Jvm.MethodName)) ∈ gtbl := mg (mm_5 (List.mem_of_getElem? (i := 49) rfl)) rfl
set_option maxRecDepth 20000 in
theorem m_5_50 : (Jvm.Cond.code ({ cls := "DrawerGlovesModel", name := "tellsAsked", desc := "(I)I" } : Jvm.MethodName) prog_13_method_5_code (2 : Nat) (Option.some Jvm.ClassFile.FieldType.int)) ∈ gtbl := mg (mm_5 (List.mem_of_getElem? (i := 50) rfl)) rfl
set_option maxRecDepth 20000 in
theorem m_5_51 : (Jvm.Cond.methodLink "DrawerGlovesLaw" (26 : Nat) ({ cls := "DrawerGlovesModel", name := "at", desc := "(II)I" } : Jvm.MethodName)) ∈ gtbl := mg (mm_5 (List.mem_of_getElem? (i := 51) rfl)) rfl
set_option maxRecDepth 20000 in
theorem m_5_52 : (Jvm.Cond.instanceMethod ({ cls := "DrawerGlovesModel", name := "at", desc := "(II)I" } : Jvm.MethodName)) ∈ gtbl := mg (mm_5 (List.mem_of_getElem? (i := 52) rfl)) rfl
set_option maxRecDepth 20000 in
theorem m_5_53 : (Jvm.Cond.selects "DrawerGlovesModel" ({ cls := "DrawerGlovesModel", name := "at", desc := "(II)I" } : Jvm.MethodName) ({ cls := "DrawerGlovesModel", name := "at", desc := "(II)I" } : Jvm.MethodName)) ∈ gtbl := mg (mm_5 (List.mem_of_getElem? (i := 53) rfl)) rfl
set_option maxRecDepth 20000 in
theorem m_5_54 : (Jvm.Cond.code ({ cls := "DrawerGlovesModel", name := "at", desc := "(II)I" } : Jvm.MethodName) prog_13_method_11_code (3 : Nat) (Option.some Jvm.ClassFile.FieldType.int)) ∈ gtbl := mg (mm_5 (List.mem_of_getElem? (i := 54) rfl)) rfl
set_option maxRecDepth 20000 in
theorem m_5_55 : (Jvm.Cond.methodLink "DrawerGlovesLaw" (31 : Nat) ({ cls := "DrawerGlovesModel", name := "tear", desc := "(I)I" } : Jvm.MethodName)) ∈ gtbl := mg (mm_5 (List.mem_of_getElem? (i := 55) rfl)) rfl
set_option maxRecDepth 20000 in
theorem m_5_56 : (Jvm.Cond.instanceMethod ({ cls := "DrawerGlovesModel", name := "tear", desc := "(I)I" } : Jvm.MethodName)) ∈ gtbl := mg (mm_5 (List.mem_of_getElem? (i := 56) rfl)) rfl
set_option maxRecDepth 20000 in
theorem m_5_57 : (Jvm.Cond.selects "DrawerGlovesModel" ({ cls := "DrawerGlovesModel", name := "tear", desc := "(I)I" } : Jvm.MethodName) ({ cls := "DrawerGlovesModel", name := "tear", desc := "(I)I" } : Jvm.MethodName)) ∈ gtbl := mg (mm_5 (List.mem_of_getElem? (i := 57) rfl)) rfl
set_option maxRecDepth 20000 in
theorem m_5_58 : (Jvm.Cond.code ({ cls := "DrawerGlovesModel", name := "tear", desc := "(I)I" } : Jvm.MethodName) prog_13_method_12_code (2 : Nat) (Option.some Jvm.ClassFile.FieldType.int)) ∈ gtbl := mg (mm_5 (List.mem_of_getElem? (i := 58) rfl)) rfl
set_option maxRecDepth 20000 in
theorem m_5_59 : (Jvm.Cond.methodLink "DrawerGlovesLaw" (36 : Nat) ({ cls := "DrawerGlovesModel", name := "copy", desc := "(IIIII)I" } : Jvm.MethodName)) ∈ gtbl := mg (mm_5 (List.mem_of_getElem? (i := 59) rfl)) rfl
set_option maxRecDepth 20000 in
theorem m_5_60 : (Jvm.Cond.instanceMethod ({ cls := "DrawerGlovesModel", name := "copy", desc := "(IIIII)I" } : Jvm.MethodName)) ∈ gtbl := mg (mm_5 (List.mem_of_getElem? (i := 60) rfl)) rfl
set_option maxRecDepth 20000 in
theorem m_5_61 : (Jvm.Cond.selects "DrawerGlovesModel" ({ cls := "DrawerGlovesModel", name := "copy", desc := "(IIIII)I" } : Jvm.MethodName) ({ cls := "DrawerGlovesModel", name := "copy", desc := "(IIIII)I" } : Jvm.MethodName)) ∈ gtbl := mg (mm_5 (List.mem_of_getElem? (i := 61) rfl)) rfl
set_option maxRecDepth 20000 in
theorem m_5_62 : (Jvm.Cond.code ({ cls := "DrawerGlovesModel", name := "copy", desc := "(IIIII)I" } : Jvm.MethodName) prog_13_method_13_code (7 : Nat) (Option.some Jvm.ClassFile.FieldType.int)) ∈ gtbl := mg (mm_5 (List.mem_of_getElem? (i := 62) rfl)) rfl
set_option maxRecDepth 20000 in
theorem m_5_63 : (Jvm.Cond.methodLink "DrawerGlovesLaw" (40 : Nat) ({ cls := "DrawerGlovesModel", name := "mean", desc := "(I)I" } : Jvm.MethodName)) ∈ gtbl := mg (mm_5 (List.mem_of_getElem? (i := 63) rfl)) rfl
set_option maxRecDepth 20000 in
theorem m_5_64 : (Jvm.Cond.instanceMethod ({ cls := "DrawerGlovesModel", name := "mean", desc := "(I)I" } : Jvm.MethodName)) ∈ gtbl := mg (mm_5 (List.mem_of_getElem? (i := 64) rfl)) rfl
set_option maxRecDepth 20000 in
theorem m_5_65 : (Jvm.Cond.selects "DrawerGlovesModel" ({ cls := "DrawerGlovesModel", name := "mean", desc := "(I)I" } : Jvm.MethodName) ({ cls := "DrawerGlovesModel", name := "mean", desc := "(I)I" } : Jvm.MethodName)) ∈ gtbl := mg (mm_5 (List.mem_of_getElem? (i := 65) rfl)) rfl
set_option maxRecDepth 20000 in
theorem m_5_66 : (Jvm.Cond.code ({ cls := "DrawerGlovesModel", name := "mean", desc := "(I)I" } : Jvm.MethodName) prog_13_method_14_code (5 : Nat) (Option.some Jvm.ClassFile.FieldType.int)) ∈ gtbl := mg (mm_5 (List.mem_of_getElem? (i := 66) rfl)) rfl
set_option maxRecDepth 20000 in
theorem m_5_67 : (Jvm.Cond.methodLink "DrawerGlovesLaw" (44 : Nat) ({ cls := "DrawerGlovesModel", name := "text", desc := "(II)I" } : Jvm.MethodName)) ∈ gtbl := mg (mm_5 (List.mem_of_getElem? (i := 67) rfl)) rfl
set_option maxRecDepth 20000 in
theorem m_5_68 : (Jvm.Cond.instanceMethod ({ cls := "DrawerGlovesModel", name := "text", desc := "(II)I" } : Jvm.MethodName)) ∈ gtbl := mg (mm_5 (List.mem_of_getElem? (i := 68) rfl)) rfl
set_option maxRecDepth 20000 in
theorem m_5_69 : (Jvm.Cond.selects "DrawerGlovesModel" ({ cls := "DrawerGlovesModel", name := "text", desc := "(II)I" } : Jvm.MethodName) ({ cls := "DrawerGlovesModel", name := "text", desc := "(II)I" } : Jvm.MethodName)) ∈ gtbl := mg (mm_5 (List.mem_of_getElem? (i := 69) rfl)) rfl
set_option maxRecDepth 20000 in
theorem m_5_70 : (Jvm.Cond.code ({ cls := "DrawerGlovesModel", name := "text", desc := "(II)I" } : Jvm.MethodName) prog_13_method_16_code (4 : Nat) (Option.some Jvm.ClassFile.FieldType.int)) ∈ gtbl := mg (mm_5 (List.mem_of_getElem? (i := 70) rfl)) rfl
set_option maxRecDepth 20000 in
theorem m_5_71 : (Jvm.Cond.methodLink "DrawerGlovesModel" (113 : Nat) ({ cls := "DrawerGlovesModel", name := "isText", desc := "(I)Z" } : Jvm.MethodName)) ∈ gtbl := mg (mm_5 (List.mem_of_getElem? (i := 71) rfl)) rfl
set_option maxRecDepth 20000 in
theorem m_5_72 : (Jvm.Cond.static ({ cls := "DrawerGlovesModel", name := "isText", desc := "(I)Z" } : Jvm.MethodName)) ∈ gtbl := mg (mm_5 (List.mem_of_getElem? (i := 72) rfl)) rfl
set_option maxRecDepth 20000 in
theorem m_5_73 : (Jvm.Cond.code ({ cls := "DrawerGlovesModel", name := "isText", desc := "(I)Z" } : Jvm.MethodName) prog_13_method_15_code (1 : Nat) (Option.some Jvm.ClassFile.FieldType.boolean)) ∈ gtbl := mg (mm_5 (List.mem_of_getElem? (i := 73) rfl)) rfl
set_option maxRecDepth 20000 in
theorem m_5_74 : (Jvm.Cond.methodLink "DrawerGlovesLaw" (48 : Nat) ({ cls := "DrawerGlovesModel", name := "put", desc := "(III)I" } : Jvm.MethodName)) ∈ gtbl := mg (mm_5 (List.mem_of_getElem? (i := 74) rfl)) rfl
set_option maxRecDepth 20000 in
theorem m_5_75 : (Jvm.Cond.instanceMethod ({ cls := "DrawerGlovesModel", name := "put", desc := "(III)I" } : Jvm.MethodName)) ∈ gtbl := mg (mm_5 (List.mem_of_getElem? (i := 75) rfl)) rfl
set_option maxRecDepth 20000 in
theorem m_5_76 : (Jvm.Cond.selects "DrawerGlovesModel" ({ cls := "DrawerGlovesModel", name := "put", desc := "(III)I" } : Jvm.MethodName) ({ cls := "DrawerGlovesModel", name := "put", desc := "(III)I" } : Jvm.MethodName)) ∈ gtbl := mg (mm_5 (List.mem_of_getElem? (i := 76) rfl)) rfl
set_option maxRecDepth 20000 in
theorem m_5_77 : (Jvm.Cond.code ({ cls := "DrawerGlovesModel", name := "put", desc := "(III)I" } : Jvm.MethodName) prog_13_method_17_code (5 : Nat) (Option.some Jvm.ClassFile.FieldType.int)) ∈ gtbl := mg (mm_5 (List.mem_of_getElem? (i := 77) rfl)) rfl
set_option maxRecDepth 20000 in
theorem m_5_78 : (Jvm.Cond.methodLink "DrawerGlovesLaw" (52 : Nat) ({ cls := "DrawerGlovesModel", name := "fault", desc := "(I)I" } : Jvm.MethodName)) ∈ gtbl := mg (mm_5 (List.mem_of_getElem? (i := 78) rfl)) rfl
set_option maxRecDepth 20000 in
theorem m_5_79 : (Jvm.Cond.instanceMethod ({ cls := "DrawerGlovesModel", name := "fault", desc := "(I)I" } : Jvm.MethodName)) ∈ gtbl := mg (mm_5 (List.mem_of_getElem? (i := 79) rfl)) rfl
set_option maxRecDepth 20000 in
theorem m_5_80 : (Jvm.Cond.selects "DrawerGlovesModel" ({ cls := "DrawerGlovesModel", name := "fault", desc := "(I)I" } : Jvm.MethodName) ({ cls := "DrawerGlovesModel", name := "fault", desc := "(I)I" } : Jvm.MethodName)) ∈ gtbl := mg (mm_5 (List.mem_of_getElem? (i := 80) rfl)) rfl
set_option maxRecDepth 20000 in
theorem m_5_81 : (Jvm.Cond.code ({ cls := "DrawerGlovesModel", name := "fault", desc := "(I)I" } : Jvm.MethodName) prog_13_method_24_code (2 : Nat) (Option.some Jvm.ClassFile.FieldType.int)) ∈ gtbl := mg (mm_5 (List.mem_of_getElem? (i := 81) rfl)) rfl
set_option maxRecDepth 20000 in
theorem m_5_82 : (Jvm.Cond.methodLink "DrawerGlovesModel" (148 : Nat) ({ cls := "DrawerGlovesModel", name := "read", desc := "(I)V" } : Jvm.MethodName)) ∈ gtbl := mg (mm_5 (List.mem_of_getElem? (i := 82) rfl)) rfl
set_option maxRecDepth 20000 in
theorem m_5_84 : (Jvm.Cond.instanceMethod ({ cls := "DrawerGlovesModel", name := "read", desc := "(I)V" } : Jvm.MethodName)) ∈ gtbl := mg (mm_5 (List.mem_of_getElem? (i := 84) rfl)) rfl
set_option maxRecDepth 20000 in
theorem m_5_85 : (Jvm.Cond.code ({ cls := "DrawerGlovesModel", name := "read", desc := "(I)V" } : Jvm.MethodName) prog_13_method_23_code (3 : Nat) (Option.none : Option Jvm.ClassFile.FieldType)) ∈ gtbl := mg (mm_5 (List.mem_of_getElem? (i := 85) rfl)) rfl
set_option maxRecDepth 20000 in
theorem m_5_86 : (Jvm.Cond.methodLink "DrawerGlovesModel" (139 : Nat) ({ cls := "DrawerGlovesModel", name := "skip", desc := "()V" } : Jvm.MethodName)) ∈ gtbl := mg (mm_5 (List.mem_of_getElem? (i := 86) rfl)) rfl
set_option maxRecDepth 20000 in
theorem m_5_88 : (Jvm.Cond.instanceMethod ({ cls := "DrawerGlovesModel", name := "skip", desc := "()V" } : Jvm.MethodName)) ∈ gtbl := mg (mm_5 (List.mem_of_getElem? (i := 88) rfl)) rfl
set_option maxRecDepth 20000 in
theorem m_5_89 : (Jvm.Cond.code ({ cls := "DrawerGlovesModel", name := "skip", desc := "()V" } : Jvm.MethodName) prog_13_method_19_code (1 : Nat) (Option.none : Option Jvm.ClassFile.FieldType)) ∈ gtbl := mg (mm_5 (List.mem_of_getElem? (i := 89) rfl)) rfl
set_option maxRecDepth 20000 in
theorem m_5_90 : (Jvm.Cond.methodLink "DrawerGlovesModel" (122 : Nat) ({ cls := "DrawerGlovesModel", name := "here", desc := "()I" } : Jvm.MethodName)) ∈ gtbl := mg (mm_5 (List.mem_of_getElem? (i := 90) rfl)) rfl
set_option maxRecDepth 20000 in
theorem m_5_92 : (Jvm.Cond.instanceMethod ({ cls := "DrawerGlovesModel", name := "here", desc := "()I" } : Jvm.MethodName)) ∈ gtbl := mg (mm_5 (List.mem_of_getElem? (i := 92) rfl)) rfl
set_option maxRecDepth 20000 in
theorem m_5_93 : (Jvm.Cond.code ({ cls := "DrawerGlovesModel", name := "here", desc := "()I" } : Jvm.MethodName) prog_13_method_18_code (1 : Nat) (Option.some Jvm.ClassFile.FieldType.int)) ∈ gtbl := mg (mm_5 (List.mem_of_getElem? (i := 93) rfl)) rfl
set_option maxRecDepth 20000 in
theorem m_5_94 : (Jvm.Cond.methodLink "DrawerGlovesModel" (135 : Nat) ({ cls := "DrawerGlovesModel", name := "figure", desc := "(II)I" } : Jvm.MethodName)) ∈ gtbl := mg (mm_5 (List.mem_of_getElem? (i := 94) rfl)) rfl
set_option maxRecDepth 20000 in
theorem m_5_96 : (Jvm.Cond.instanceMethod ({ cls := "DrawerGlovesModel", name := "figure", desc := "(II)I" } : Jvm.MethodName)) ∈ gtbl := mg (mm_5 (List.mem_of_getElem? (i := 96) rfl)) rfl
set_option maxRecDepth 20000 in
theorem m_5_97 : (Jvm.Cond.code ({ cls := "DrawerGlovesModel", name := "figure", desc := "(II)I" } : Jvm.MethodName) prog_13_method_20_code (4 : Nat) (Option.some Jvm.ClassFile.FieldType.int)) ∈ gtbl := mg (mm_5 (List.mem_of_getElem? (i := 97) rfl)) rfl
set_option maxRecDepth 20000 in
theorem m_5_98 : (Jvm.Cond.methodLink "DrawerGlovesModel" (145 : Nat) ({ cls := "DrawerGlovesModel", name := "readGlove", desc := "()V" } : Jvm.MethodName)) ∈ gtbl := mg (mm_5 (List.mem_of_getElem? (i := 98) rfl)) rfl
set_option maxRecDepth 20000 in
theorem m_5_100 : (Jvm.Cond.instanceMethod ({ cls := "DrawerGlovesModel", name := "readGlove", desc := "()V" } : Jvm.MethodName)) ∈ gtbl := mg (mm_5 (List.mem_of_getElem? (i := 100) rfl)) rfl
set_option maxRecDepth 20000 in
theorem m_5_101 : (Jvm.Cond.code ({ cls := "DrawerGlovesModel", name := "readGlove", desc := "()V" } : Jvm.MethodName) prog_13_method_22_code (2 : Nat) (Option.none : Option Jvm.ClassFile.FieldType)) ∈ gtbl := mg (mm_5 (List.mem_of_getElem? (i := 101) rfl)) rfl
set_option maxRecDepth 20000 in
theorem m_5_102 : (Jvm.Cond.methodLink "DrawerGlovesModel" (129 : Nat) ({ cls := "DrawerGlovesModel", name := "kindBy", desc := "(I)I" } : Jvm.MethodName)) ∈ gtbl := mg (mm_5 (List.mem_of_getElem? (i := 102) rfl)) rfl
set_option maxRecDepth 20000 in
theorem m_5_103 : (Jvm.Cond.static ({ cls := "DrawerGlovesModel", name := "kindBy", desc := "(I)I" } : Jvm.MethodName)) ∈ gtbl := mg (mm_5 (List.mem_of_getElem? (i := 103) rfl)) rfl
set_option maxRecDepth 20000 in
theorem m_5_104 : (Jvm.Cond.code ({ cls := "DrawerGlovesModel", name := "kindBy", desc := "(I)I" } : Jvm.MethodName) prog_13_method_21_code (1 : Nat) (Option.some Jvm.ClassFile.FieldType.int)) ∈ gtbl := mg (mm_5 (List.mem_of_getElem? (i := 104) rfl)) rfl
set_option maxRecDepth 20000 in
theorem m_5_105 : (Jvm.Cond.methodLink "DrawerGlovesLaw" (56 : Nat) ({ cls := "DrawerGlovesModel", name := "drawer", desc := "(I)I" } : Jvm.MethodName)) ∈ gtbl := mg (mm_5 (List.mem_of_getElem? (i := 105) rfl)) rfl
set_option maxRecDepth 20000 in
theorem m_5_106 : (Jvm.Cond.instanceMethod ({ cls := "DrawerGlovesModel", name := "drawer", desc := "(I)I" } : Jvm.MethodName)) ∈ gtbl := mg (mm_5 (List.mem_of_getElem? (i := 106) rfl)) rfl
set_option maxRecDepth 20000 in
theorem m_5_107 : (Jvm.Cond.selects "DrawerGlovesModel" ({ cls := "DrawerGlovesModel", name := "drawer", desc := "(I)I" } : Jvm.MethodName) ({ cls := "DrawerGlovesModel", name := "drawer", desc := "(I)I" } : Jvm.MethodName)) ∈ gtbl := mg (mm_5 (List.mem_of_getElem? (i := 107) rfl)) rfl
set_option maxRecDepth 20000 in
theorem m_5_108 : (Jvm.Cond.code ({ cls := "DrawerGlovesModel", name := "drawer", desc := "(I)I" } : Jvm.MethodName) prog_13_method_25_code (3 : Nat) (Option.some Jvm.ClassFile.FieldType.int)) ∈ gtbl := mg (mm_5 (List.mem_of_getElem? (i := 108) rfl)) rfl
set_option maxRecDepth 20000 in
theorem m_5_109 : (Jvm.Cond.methodLink "DrawerGlovesModel" (161 : Nat) ({ cls := "DrawerGlovesModel", name := "goThrough", desc := "()V" } : Jvm.MethodName)) ∈ gtbl := mg (mm_5 (List.mem_of_getElem? (i := 109) rfl)) rfl
set_option maxRecDepth 20000 in
theorem m_5_111 : (Jvm.Cond.instanceMethod ({ cls := "DrawerGlovesModel", name := "goThrough", desc := "()V" } : Jvm.MethodName)) ∈ gtbl := mg (mm_5 (List.mem_of_getElem? (i := 111) rfl)) rfl
set_option maxRecDepth 20000 in
theorem m_5_112 : (Jvm.Cond.code ({ cls := "DrawerGlovesModel", name := "goThrough", desc := "()V" } : Jvm.MethodName) prog_13_method_37_code (2 : Nat) (Option.none : Option Jvm.ClassFile.FieldType)) ∈ gtbl := mg (mm_5 (List.mem_of_getElem? (i := 112) rfl)) rfl
set_option maxRecDepth 20000 in
theorem m_5_113 : (Jvm.Cond.methodLink "DrawerGlovesModel" (184 : Nat) ({ cls := "DrawerGlovesModel", name := "happen", desc := "(III)V" } : Jvm.MethodName)) ∈ gtbl := mg (mm_5 (List.mem_of_getElem? (i := 113) rfl)) rfl
set_option maxRecDepth 20000 in
theorem m_5_115 : (Jvm.Cond.instanceMethod ({ cls := "DrawerGlovesModel", name := "happen", desc := "(III)V" } : Jvm.MethodName)) ∈ gtbl := mg (mm_5 (List.mem_of_getElem? (i := 115) rfl)) rfl
set_option maxRecDepth 20000 in
theorem m_5_116 : (Jvm.Cond.code ({ cls := "DrawerGlovesModel", name := "happen", desc := "(III)V" } : Jvm.MethodName) prog_13_method_36_code (4 : Nat) (Option.none : Option Jvm.ClassFile.FieldType)) ∈ gtbl := mg (mm_5 (List.mem_of_getElem? (i := 116) rfl)) rfl
set_option maxRecDepth 20000 in
theorem m_5_117 : (Jvm.Cond.methodLink "DrawerGlovesLaw" (60 : Nat) ({ cls := "DrawerGlovesModel", name := "glove", desc := "(II)I" } : Jvm.MethodName)) ∈ gtbl := mg (mm_5 (List.mem_of_getElem? (i := 117) rfl)) rfl
set_option maxRecDepth 20000 in
theorem m_5_118 : (Jvm.Cond.instanceMethod ({ cls := "DrawerGlovesModel", name := "glove", desc := "(II)I" } : Jvm.MethodName)) ∈ gtbl := mg (mm_5 (List.mem_of_getElem? (i := 118) rfl)) rfl
set_option maxRecDepth 20000 in
theorem m_5_119 : (Jvm.Cond.selects "DrawerGlovesModel" ({ cls := "DrawerGlovesModel", name := "glove", desc := "(II)I" } : Jvm.MethodName) ({ cls := "DrawerGlovesModel", name := "glove", desc := "(II)I" } : Jvm.MethodName)) ∈ gtbl := mg (mm_5 (List.mem_of_getElem? (i := 119) rfl)) rfl
set_option maxRecDepth 20000 in
theorem m_5_120 : (Jvm.Cond.code ({ cls := "DrawerGlovesModel", name := "glove", desc := "(II)I" } : Jvm.MethodName) prog_13_method_40_code (3 : Nat) (Option.some Jvm.ClassFile.FieldType.int)) ∈ gtbl := mg (mm_5 (List.mem_of_getElem? (i := 120) rfl)) rfl
set_option maxRecDepth 20000 in
theorem m_5_121 : (Jvm.Cond.methodLink "DrawerGlovesModel" (188 : Nat) ({ cls := "DrawerGlovesModel", name := "isGlove", desc := "(I)Z" } : Jvm.MethodName)) ∈ gtbl := mg (mm_5 (List.mem_of_getElem? (i := 121) rfl)) rfl
set_option maxRecDepth 20000 in
theorem m_5_123 : (Jvm.Cond.instanceMethod ({ cls := "DrawerGlovesModel", name := "isGlove", desc := "(I)Z" } : Jvm.MethodName)) ∈ gtbl := mg (mm_5 (List.mem_of_getElem? (i := 123) rfl)) rfl
set_option maxRecDepth 20000 in
theorem m_5_124 : (Jvm.Cond.code ({ cls := "DrawerGlovesModel", name := "isGlove", desc := "(I)Z" } : Jvm.MethodName) prog_13_method_26_code (2 : Nat) (Option.some Jvm.ClassFile.FieldType.boolean)) ∈ gtbl := mg (mm_5 (List.mem_of_getElem? (i := 124) rfl)) rfl
set_option maxRecDepth 20000 in
theorem m_5_125 : (Jvm.Cond.methodLink "DrawerGlovesModel" (191 : Nat) ({ cls := "DrawerGlovesModel", name := "ofGlove", desc := "(II)I" } : Jvm.MethodName)) ∈ gtbl := mg (mm_5 (List.mem_of_getElem? (i := 125) rfl)) rfl
set_option maxRecDepth 20000 in
theorem m_5_127 : (Jvm.Cond.instanceMethod ({ cls := "DrawerGlovesModel", name := "ofGlove", desc := "(II)I" } : Jvm.MethodName)) ∈ gtbl := mg (mm_5 (List.mem_of_getElem? (i := 127) rfl)) rfl
set_option maxRecDepth 20000 in
theorem m_5_128 : (Jvm.Cond.code ({ cls := "DrawerGlovesModel", name := "ofGlove", desc := "(II)I" } : Jvm.MethodName) prog_13_method_39_code (3 : Nat) (Option.some Jvm.ClassFile.FieldType.int)) ∈ gtbl := mg (mm_5 (List.mem_of_getElem? (i := 128) rfl)) rfl
set_option maxRecDepth 20000 in
theorem m_5_129 : (Jvm.Cond.methodLink "DrawerGlovesModel" (171 : Nat) ({ cls := "DrawerGlovesModel", name := "warmthAs", desc := "(II)I" } : Jvm.MethodName)) ∈ gtbl := mg (mm_5 (List.mem_of_getElem? (i := 129) rfl)) rfl
set_option maxRecDepth 20000 in
theorem m_5_131 : (Jvm.Cond.instanceMethod ({ cls := "DrawerGlovesModel", name := "warmthAs", desc := "(II)I" } : Jvm.MethodName)) ∈ gtbl := mg (mm_5 (List.mem_of_getElem? (i := 131) rfl)) rfl
set_option maxRecDepth 20000 in
theorem m_5_132 : (Jvm.Cond.code ({ cls := "DrawerGlovesModel", name := "warmthAs", desc := "(II)I" } : Jvm.MethodName) prog_13_method_29_code (4 : Nat) (Option.some Jvm.ClassFile.FieldType.int)) ∈ gtbl := mg (mm_5 (List.mem_of_getElem? (i := 132) rfl)) rfl
set_option maxRecDepth 20000 in
theorem m_5_133 : (Jvm.Cond.methodLink "DrawerGlovesLaw" (64 : Nat) ({ cls := "DrawerGlovesModel", name := "mark", desc := "(II)I" } : Jvm.MethodName)) ∈ gtbl := mg (mm_5 (List.mem_of_getElem? (i := 133) rfl)) rfl
set_option maxRecDepth 20000 in
theorem m_5_134 : (Jvm.Cond.instanceMethod ({ cls := "DrawerGlovesModel", name := "mark", desc := "(II)I" } : Jvm.MethodName)) ∈ gtbl := mg (mm_5 (List.mem_of_getElem? (i := 134) rfl)) rfl
set_option maxRecDepth 20000 in
theorem m_5_135 : (Jvm.Cond.selects "DrawerGlovesModel" ({ cls := "DrawerGlovesModel", name := "mark", desc := "(II)I" } : Jvm.MethodName) ({ cls := "DrawerGlovesModel", name := "mark", desc := "(II)I" } : Jvm.MethodName)) ∈ gtbl := mg (mm_5 (List.mem_of_getElem? (i := 135) rfl)) rfl
set_option maxRecDepth 20000 in
theorem m_5_136 : (Jvm.Cond.code ({ cls := "DrawerGlovesModel", name := "mark", desc := "(II)I" } : Jvm.MethodName) prog_13_method_41_code (6 : Nat) (Option.some Jvm.ClassFile.FieldType.int)) ∈ gtbl := mg (mm_5 (List.mem_of_getElem? (i := 136) rfl)) rfl
set_option maxRecDepth 20000 in
theorem m_5_137 : (Jvm.Cond.methodLink "DrawerGlovesModel" (164 : Nat) ({ cls := "DrawerGlovesModel", name := "isOf", desc := "(II)Z" } : Jvm.MethodName)) ∈ gtbl := mg (mm_5 (List.mem_of_getElem? (i := 137) rfl)) rfl
set_option maxRecDepth 20000 in
theorem m_5_138 : (Jvm.Cond.static ({ cls := "DrawerGlovesModel", name := "isOf", desc := "(II)Z" } : Jvm.MethodName)) ∈ gtbl := mg (mm_5 (List.mem_of_getElem? (i := 138) rfl)) rfl
set_option maxRecDepth 20000 in
theorem m_5_139 : (Jvm.Cond.code ({ cls := "DrawerGlovesModel", name := "isOf", desc := "(II)Z" } : Jvm.MethodName) prog_13_method_28_code (2 : Nat) (Option.some Jvm.ClassFile.FieldType.boolean)) ∈ gtbl := mg (mm_5 (List.mem_of_getElem? (i := 139) rfl)) rfl
set_option maxRecDepth 20000 in
theorem m_5_140 : (Jvm.Cond.methodLink "DrawerGlovesModel" (194 : Nat) ({ cls := "DrawerGlovesModel", name := "pairOf", desc := "(II)I" } : Jvm.MethodName)) ∈ gtbl := mg (mm_5 (List.mem_of_getElem? (i := 140) rfl)) rfl
set_option maxRecDepth 20000 in
theorem m_5_142 : (Jvm.Cond.instanceMethod ({ cls := "DrawerGlovesModel", name := "pairOf", desc := "(II)I" } : Jvm.MethodName)) ∈ gtbl := mg (mm_5 (List.mem_of_getElem? (i := 142) rfl)) rfl
set_option maxRecDepth 20000 in
theorem m_5_143 : (Jvm.Cond.code ({ cls := "DrawerGlovesModel", name := "pairOf", desc := "(II)I" } : Jvm.MethodName) prog_13_method_32_code (3 : Nat) (Option.some Jvm.ClassFile.FieldType.int)) ∈ gtbl := mg (mm_5 (List.mem_of_getElem? (i := 143) rfl)) rfl
set_option maxRecDepth 20000 in
theorem m_5_144 : (Jvm.Cond.methodLink "DrawerGlovesModel" (174 : Nat) ({ cls := "DrawerGlovesModel", name := "pairAs", desc := "(IIIII)I" } : Jvm.MethodName)) ∈ gtbl := mg (mm_5 (List.mem_of_getElem? (i := 144) rfl)) rfl
set_option maxRecDepth 20000 in
theorem m_5_146 : (Jvm.Cond.instanceMethod ({ cls := "DrawerGlovesModel", name := "pairAs", desc := "(IIIII)I" } : Jvm.MethodName)) ∈ gtbl := mg (mm_5 (List.mem_of_getElem? (i := 146) rfl)) rfl
set_option maxRecDepth 20000 in
theorem m_5_147 : (Jvm.Cond.code ({ cls := "DrawerGlovesModel", name := "pairAs", desc := "(IIIII)I" } : Jvm.MethodName) prog_13_method_31_code (11 : Nat) (Option.some Jvm.ClassFile.FieldType.int)) ∈ gtbl := mg (mm_5 (List.mem_of_getElem? (i := 147) rfl)) rfl
set_option maxRecDepth 20000 in
theorem m_5_148 : (Jvm.Cond.methodLink "DrawerGlovesModel" (168 : Nat) ({ cls := "DrawerGlovesModel", name := "goesOn", desc := "(II)I" } : Jvm.MethodName)) ∈ gtbl := mg (mm_5 (List.mem_of_getElem? (i := 148) rfl)) rfl
set_option maxRecDepth 20000 in
theorem m_5_149 : (Jvm.Cond.static ({ cls := "DrawerGlovesModel", name := "goesOn", desc := "(II)I" } : Jvm.MethodName)) ∈ gtbl := mg (mm_5 (List.mem_of_getElem? (i := 149) rfl)) rfl
set_option maxRecDepth 20000 in
theorem m_5_150 : (Jvm.Cond.code ({ cls := "DrawerGlovesModel", name := "goesOn", desc := "(II)I" } : Jvm.MethodName) prog_13_method_30_code (2 : Nat) (Option.some Jvm.ClassFile.FieldType.int)) ∈ gtbl := mg (mm_5 (List.mem_of_getElem? (i := 150) rfl)) rfl
set_option maxRecDepth 20000 in
theorem m_5_151 : (Jvm.Cond.methodLink "DrawerGlovesLaw" (68 : Nat) ({ cls := "DrawerGlovesModel", name := "pair", desc := "(II)I" } : Jvm.MethodName)) ∈ gtbl := mg (mm_5 (List.mem_of_getElem? (i := 151) rfl)) rfl
set_option maxRecDepth 20000 in
theorem m_5_152 : (Jvm.Cond.instanceMethod ({ cls := "DrawerGlovesModel", name := "pair", desc := "(II)I" } : Jvm.MethodName)) ∈ gtbl := mg (mm_5 (List.mem_of_getElem? (i := 152) rfl)) rfl
set_option maxRecDepth 20000 in
theorem m_5_153 : (Jvm.Cond.selects "DrawerGlovesModel" ({ cls := "DrawerGlovesModel", name := "pair", desc := "(II)I" } : Jvm.MethodName) ({ cls := "DrawerGlovesModel", name := "pair", desc := "(II)I" } : Jvm.MethodName)) ∈ gtbl := mg (mm_5 (List.mem_of_getElem? (i := 153) rfl)) rfl
set_option maxRecDepth 20000 in
theorem m_5_154 : (Jvm.Cond.code ({ cls := "DrawerGlovesModel", name := "pair", desc := "(II)I" } : Jvm.MethodName) prog_13_method_43_code (3 : Nat) (Option.some Jvm.ClassFile.FieldType.int)) ∈ gtbl := mg (mm_5 (List.mem_of_getElem? (i := 154) rfl)) rfl
set_option maxRecDepth 20000 in
theorem m_5_155 : (Jvm.Cond.methodLink "DrawerGlovesModel" (197 : Nat) ({ cls := "DrawerGlovesModel", name := "areTwo", desc := "(II)Z" } : Jvm.MethodName)) ∈ gtbl := mg (mm_5 (List.mem_of_getElem? (i := 155) rfl)) rfl
set_option maxRecDepth 20000 in
theorem m_5_157 : (Jvm.Cond.instanceMethod ({ cls := "DrawerGlovesModel", name := "areTwo", desc := "(II)Z" } : Jvm.MethodName)) ∈ gtbl := mg (mm_5 (List.mem_of_getElem? (i := 157) rfl)) rfl
set_option maxRecDepth 20000 in
theorem m_5_158 : (Jvm.Cond.code ({ cls := "DrawerGlovesModel", name := "areTwo", desc := "(II)Z" } : Jvm.MethodName) prog_13_method_42_code (3 : Nat) (Option.some Jvm.ClassFile.FieldType.boolean)) ∈ gtbl := mg (mm_5 (List.mem_of_getElem? (i := 158) rfl)) rfl
set_option maxRecDepth 20000 in
theorem m_5_159 : (Jvm.Cond.methodLink "DrawerGlovesLaw" (72 : Nat) ({ cls := "DrawerGlovesModel", name := "wear", desc := "(II)I" } : Jvm.MethodName)) ∈ gtbl := mg (mm_5 (List.mem_of_getElem? (i := 159) rfl)) rfl
set_option maxRecDepth 20000 in
theorem m_5_160 : (Jvm.Cond.instanceMethod ({ cls := "DrawerGlovesModel", name := "wear", desc := "(II)I" } : Jvm.MethodName)) ∈ gtbl := mg (mm_5 (List.mem_of_getElem? (i := 160) rfl)) rfl
set_option maxRecDepth 20000 in
theorem m_5_161 : (Jvm.Cond.selects "DrawerGlovesModel" ({ cls := "DrawerGlovesModel", name := "wear", desc := "(II)I" } : Jvm.MethodName) ({ cls := "DrawerGlovesModel", name := "wear", desc := "(II)I" } : Jvm.MethodName)) ∈ gtbl := mg (mm_5 (List.mem_of_getElem? (i := 161) rfl)) rfl
set_option maxRecDepth 20000 in
theorem m_5_162 : (Jvm.Cond.code ({ cls := "DrawerGlovesModel", name := "wear", desc := "(II)I" } : Jvm.MethodName) prog_13_method_44_code (4 : Nat) (Option.some Jvm.ClassFile.FieldType.int)) ∈ gtbl := mg (mm_5 (List.mem_of_getElem? (i := 162) rfl)) rfl
set_option maxRecDepth 20000 in
theorem m_5_163 : (Jvm.Cond.methodLink "DrawerGlovesModel" (200 : Nat) ({ cls := "DrawerGlovesModel", name := "does", desc := "(III)V" } : Jvm.MethodName)) ∈ gtbl := mg (mm_5 (List.mem_of_getElem? (i := 163) rfl)) rfl
set_option maxRecDepth 20000 in
theorem m_5_165 : (Jvm.Cond.instanceMethod ({ cls := "DrawerGlovesModel", name := "does", desc := "(III)V" } : Jvm.MethodName)) ∈ gtbl := mg (mm_5 (List.mem_of_getElem? (i := 165) rfl)) rfl
set_option maxRecDepth 20000 in
theorem m_5_166 : (Jvm.Cond.code ({ cls := "DrawerGlovesModel", name := "does", desc := "(III)V" } : Jvm.MethodName) prog_13_method_38_code (4 : Nat) (Option.none : Option Jvm.ClassFile.FieldType)) ∈ gtbl := mg (mm_5 (List.mem_of_getElem? (i := 166) rfl)) rfl
set_option maxRecDepth 20000 in
theorem m_5_167 : (Jvm.Cond.methodLink "DrawerGlovesLaw" (76 : Nat) ({ cls := "DrawerGlovesModel", name := "lose", desc := "(I)I" } : Jvm.MethodName)) ∈ gtbl := mg (mm_5 (List.mem_of_getElem? (i := 167) rfl)) rfl
set_option maxRecDepth 20000 in
theorem m_5_168 : (Jvm.Cond.instanceMethod ({ cls := "DrawerGlovesModel", name := "lose", desc := "(I)I" } : Jvm.MethodName)) ∈ gtbl := mg (mm_5 (List.mem_of_getElem? (i := 168) rfl)) rfl
set_option maxRecDepth 20000 in
theorem m_5_169 : (Jvm.Cond.selects "DrawerGlovesModel" ({ cls := "DrawerGlovesModel", name := "lose", desc := "(I)I" } : Jvm.MethodName) ({ cls := "DrawerGlovesModel", name := "lose", desc := "(I)I" } : Jvm.MethodName)) ∈ gtbl := mg (mm_5 (List.mem_of_getElem? (i := 169) rfl)) rfl
set_option maxRecDepth 20000 in
theorem m_5_170 : (Jvm.Cond.code ({ cls := "DrawerGlovesModel", name := "lose", desc := "(I)I" } : Jvm.MethodName) prog_13_method_45_code (2 : Nat) (Option.some Jvm.ClassFile.FieldType.int)) ∈ gtbl := mg (mm_5 (List.mem_of_getElem? (i := 170) rfl)) rfl
set_option maxRecDepth 20000 in
theorem m_5_171 : (Jvm.Cond.methodLink "DrawerGlovesModel" (203 : Nat) ({ cls := "DrawerGlovesModel", name := "inDrawer", desc := "()I" } : Jvm.MethodName)) ∈ gtbl := mg (mm_5 (List.mem_of_getElem? (i := 171) rfl)) rfl
set_option maxRecDepth 20000 in
theorem m_5_173 : (Jvm.Cond.instanceMethod ({ cls := "DrawerGlovesModel", name := "inDrawer", desc := "()I" } : Jvm.MethodName)) ∈ gtbl := mg (mm_5 (List.mem_of_getElem? (i := 173) rfl)) rfl
set_option maxRecDepth 20000 in
theorem m_5_174 : (Jvm.Cond.code ({ cls := "DrawerGlovesModel", name := "inDrawer", desc := "()I" } : Jvm.MethodName) prog_13_method_35_code (1 : Nat) (Option.some Jvm.ClassFile.FieldType.int)) ∈ gtbl := mg (mm_5 (List.mem_of_getElem? (i := 174) rfl)) rfl
set_option maxRecDepth 20000 in
theorem m_5_175 : (Jvm.Cond.methodLink "DrawerGlovesModel" (178 : Nat) ({ cls := "DrawerGlovesModel", name := "setIn", desc := "(I)I" } : Jvm.MethodName)) ∈ gtbl := mg (mm_5 (List.mem_of_getElem? (i := 175) rfl)) rfl
set_option maxRecDepth 20000 in
theorem m_5_177 : (Jvm.Cond.instanceMethod ({ cls := "DrawerGlovesModel", name := "setIn", desc := "(I)I" } : Jvm.MethodName)) ∈ gtbl := mg (mm_5 (List.mem_of_getElem? (i := 177) rfl)) rfl
set_option maxRecDepth 20000 in
theorem m_5_178 : (Jvm.Cond.code ({ cls := "DrawerGlovesModel", name := "setIn", desc := "(I)I" } : Jvm.MethodName) prog_13_method_33_code (4 : Nat) (Option.some Jvm.ClassFile.FieldType.int)) ∈ gtbl := mg (mm_5 (List.mem_of_getElem? (i := 178) rfl)) rfl
set_option maxRecDepth 20000 in
theorem m_5_179 : (Jvm.Cond.methodLink "DrawerGlovesModel" (181 : Nat) ({ cls := "DrawerGlovesModel", name := "manyOf", desc := "(I)I" } : Jvm.MethodName)) ∈ gtbl := mg (mm_5 (List.mem_of_getElem? (i := 179) rfl)) rfl
set_option maxRecDepth 20000 in
theorem m_5_180 : (Jvm.Cond.static ({ cls := "DrawerGlovesModel", name := "manyOf", desc := "(I)I" } : Jvm.MethodName)) ∈ gtbl := mg (mm_5 (List.mem_of_getElem? (i := 180) rfl)) rfl
set_option maxRecDepth 20000 in
theorem m_5_181 : (Jvm.Cond.code ({ cls := "DrawerGlovesModel", name := "manyOf", desc := "(I)I" } : Jvm.MethodName) prog_13_method_34_code (3 : Nat) (Option.some Jvm.ClassFile.FieldType.int)) ∈ gtbl := mg (mm_5 (List.mem_of_getElem? (i := 181) rfl)) rfl
set_option maxRecDepth 20000 in
theorem m_5_182 : (Jvm.Cond.methodLink "DrawerGlovesLaw" (80 : Nat) ({ cls := "DrawerGlovesModel", name := "back", desc := "(I)I" } : Jvm.MethodName)) ∈ gtbl := mg (mm_5 (List.mem_of_getElem? (i := 182) rfl)) rfl
set_option maxRecDepth 20000 in
theorem m_5_183 : (Jvm.Cond.instanceMethod ({ cls := "DrawerGlovesModel", name := "back", desc := "(I)I" } : Jvm.MethodName)) ∈ gtbl := mg (mm_5 (List.mem_of_getElem? (i := 183) rfl)) rfl
set_option maxRecDepth 20000 in
theorem m_5_184 : (Jvm.Cond.selects "DrawerGlovesModel" ({ cls := "DrawerGlovesModel", name := "back", desc := "(I)I" } : Jvm.MethodName) ({ cls := "DrawerGlovesModel", name := "back", desc := "(I)I" } : Jvm.MethodName)) ∈ gtbl := mg (mm_5 (List.mem_of_getElem? (i := 184) rfl)) rfl
set_option maxRecDepth 20000 in
theorem m_5_185 : (Jvm.Cond.code ({ cls := "DrawerGlovesModel", name := "back", desc := "(I)I" } : Jvm.MethodName) prog_13_method_46_code (2 : Nat) (Option.some Jvm.ClassFile.FieldType.int)) ∈ gtbl := mg (mm_5 (List.mem_of_getElem? (i := 185) rfl)) rfl
set_option maxRecDepth 20000 in
theorem m_5_186 : (Jvm.Cond.methodLink "DrawerGlovesLaw" (84 : Nat) ({ cls := "DrawerGlovesModel", name := "out", desc := "(I)I" } : Jvm.MethodName)) ∈ gtbl := mg (mm_5 (List.mem_of_getElem? (i := 186) rfl)) rfl
set_option maxRecDepth 20000 in
theorem m_5_187 : (Jvm.Cond.instanceMethod ({ cls := "DrawerGlovesModel", name := "out", desc := "(I)I" } : Jvm.MethodName)) ∈ gtbl := mg (mm_5 (List.mem_of_getElem? (i := 187) rfl)) rfl
set_option maxRecDepth 20000 in
theorem m_5_188 : (Jvm.Cond.selects "DrawerGlovesModel" ({ cls := "DrawerGlovesModel", name := "out", desc := "(I)I" } : Jvm.MethodName) ({ cls := "DrawerGlovesModel", name := "out", desc := "(I)I" } : Jvm.MethodName)) ∈ gtbl := mg (mm_5 (List.mem_of_getElem? (i := 188) rfl)) rfl
set_option maxRecDepth 20000 in
theorem m_5_189 : (Jvm.Cond.code ({ cls := "DrawerGlovesModel", name := "out", desc := "(I)I" } : Jvm.MethodName) prog_13_method_47_code (2 : Nat) (Option.some Jvm.ClassFile.FieldType.int)) ∈ gtbl := mg (mm_5 (List.mem_of_getElem? (i := 189) rfl)) rfl
set_option maxRecDepth 20000 in
theorem m_5_190 : (Jvm.Cond.methodLink "DrawerGlovesLaw" (88 : Nat) ({ cls := "DrawerGlovesModel", name := "undo", desc := "(I)I" } : Jvm.MethodName)) ∈ gtbl := mg (mm_5 (List.mem_of_getElem? (i := 190) rfl)) rfl
set_option maxRecDepth 20000 in
theorem m_5_191 : (Jvm.Cond.instanceMethod ({ cls := "DrawerGlovesModel", name := "undo", desc := "(I)I" } : Jvm.MethodName)) ∈ gtbl := mg (mm_5 (List.mem_of_getElem? (i := 191) rfl)) rfl
set_option maxRecDepth 20000 in
theorem m_5_192 : (Jvm.Cond.selects "DrawerGlovesModel" ({ cls := "DrawerGlovesModel", name := "undo", desc := "(I)I" } : Jvm.MethodName) ({ cls := "DrawerGlovesModel", name := "undo", desc := "(I)I" } : Jvm.MethodName)) ∈ gtbl := mg (mm_5 (List.mem_of_getElem? (i := 192) rfl)) rfl
set_option maxRecDepth 20000 in
theorem m_5_193 : (Jvm.Cond.code ({ cls := "DrawerGlovesModel", name := "undo", desc := "(I)I" } : Jvm.MethodName) prog_13_method_48_code (3 : Nat) (Option.some Jvm.ClassFile.FieldType.int)) ∈ gtbl := mg (mm_5 (List.mem_of_getElem? (i := 193) rfl)) rfl
set_option maxRecDepth 20000 in
theorem m_5_194 : (Jvm.Cond.methodLink "DrawerGlovesLaw" (92 : Nat) ({ cls := "DrawerGlovesModel", name := "keep", desc := "(I)I" } : Jvm.MethodName)) ∈ gtbl := mg (mm_5 (List.mem_of_getElem? (i := 194) rfl)) rfl
set_option maxRecDepth 20000 in
theorem m_5_195 : (Jvm.Cond.instanceMethod ({ cls := "DrawerGlovesModel", name := "keep", desc := "(I)I" } : Jvm.MethodName)) ∈ gtbl := mg (mm_5 (List.mem_of_getElem? (i := 195) rfl)) rfl
set_option maxRecDepth 20000 in
theorem m_5_196 : (Jvm.Cond.selects "DrawerGlovesModel" ({ cls := "DrawerGlovesModel", name := "keep", desc := "(I)I" } : Jvm.MethodName) ({ cls := "DrawerGlovesModel", name := "keep", desc := "(I)I" } : Jvm.MethodName)) ∈ gtbl := mg (mm_5 (List.mem_of_getElem? (i := 196) rfl)) rfl
set_option maxRecDepth 20000 in
theorem m_5_197 : (Jvm.Cond.code ({ cls := "DrawerGlovesModel", name := "keep", desc := "(I)I" } : Jvm.MethodName) prog_13_method_49_code (3 : Nat) (Option.some Jvm.ClassFile.FieldType.int)) ∈ gtbl := mg (mm_5 (List.mem_of_getElem? (i := 197) rfl)) rfl
set_option maxRecDepth 20000 in
theorem m_5_198 : (Jvm.Cond.methodLink "DrawerGlovesLaw" (96 : Nat) ({ cls := "DrawerGlovesModel", name := "on", desc := "(I)I" } : Jvm.MethodName)) ∈ gtbl := mg (mm_5 (List.mem_of_getElem? (i := 198) rfl)) rfl
set_option maxRecDepth 20000 in
theorem m_5_199 : (Jvm.Cond.instanceMethod ({ cls := "DrawerGlovesModel", name := "on", desc := "(I)I" } : Jvm.MethodName)) ∈ gtbl := mg (mm_5 (List.mem_of_getElem? (i := 199) rfl)) rfl
set_option maxRecDepth 20000 in
theorem m_5_200 : (Jvm.Cond.selects "DrawerGlovesModel" ({ cls := "DrawerGlovesModel", name := "on", desc := "(I)I" } : Jvm.MethodName) ({ cls := "DrawerGlovesModel", name := "on", desc := "(I)I" } : Jvm.MethodName)) ∈ gtbl := mg (mm_5 (List.mem_of_getElem? (i := 200) rfl)) rfl
set_option maxRecDepth 20000 in
theorem m_5_201 : (Jvm.Cond.code ({ cls := "DrawerGlovesModel", name := "on", desc := "(I)I" } : Jvm.MethodName) prog_13_method_50_code (3 : Nat) (Option.some Jvm.ClassFile.FieldType.int)) ∈ gtbl := mg (mm_5 (List.mem_of_getElem? (i := 201) rfl)) rfl
set_option maxRecDepth 20000 in
theorem m_5_202 : (Jvm.Cond.methodLink "DrawerGlovesLaw" (100 : Nat) ({ cls := "DrawerGlovesModel", name := "good", desc := "(I)I" } : Jvm.MethodName)) ∈ gtbl := mg (mm_5 (List.mem_of_getElem? (i := 202) rfl)) rfl
set_option maxRecDepth 20000 in
theorem m_5_203 : (Jvm.Cond.instanceMethod ({ cls := "DrawerGlovesModel", name := "good", desc := "(I)I" } : Jvm.MethodName)) ∈ gtbl := mg (mm_5 (List.mem_of_getElem? (i := 203) rfl)) rfl
set_option maxRecDepth 20000 in
theorem m_5_204 : (Jvm.Cond.selects "DrawerGlovesModel" ({ cls := "DrawerGlovesModel", name := "good", desc := "(I)I" } : Jvm.MethodName) ({ cls := "DrawerGlovesModel", name := "good", desc := "(I)I" } : Jvm.MethodName)) ∈ gtbl := mg (mm_5 (List.mem_of_getElem? (i := 204) rfl)) rfl
set_option maxRecDepth 20000 in
theorem m_5_205 : (Jvm.Cond.code ({ cls := "DrawerGlovesModel", name := "good", desc := "(I)I" } : Jvm.MethodName) prog_13_method_53_code (2 : Nat) (Option.some Jvm.ClassFile.FieldType.int)) ∈ gtbl := mg (mm_5 (List.mem_of_getElem? (i := 205) rfl)) rfl
set_option maxRecDepth 20000 in
theorem m_5_206 : (Jvm.Cond.methodLink "DrawerGlovesModel" (206 : Nat) ({ cls := "DrawerGlovesModel", name := "all", desc := "()I" } : Jvm.MethodName)) ∈ gtbl := mg (mm_5 (List.mem_of_getElem? (i := 206) rfl)) rfl
set_option maxRecDepth 20000 in
theorem m_5_208 : (Jvm.Cond.instanceMethod ({ cls := "DrawerGlovesModel", name := "all", desc := "()I" } : Jvm.MethodName)) ∈ gtbl := mg (mm_5 (List.mem_of_getElem? (i := 208) rfl)) rfl
set_option maxRecDepth 20000 in
theorem m_5_209 : (Jvm.Cond.code ({ cls := "DrawerGlovesModel", name := "all", desc := "()I" } : Jvm.MethodName) prog_13_method_27_code (1 : Nat) (Option.some Jvm.ClassFile.FieldType.int)) ∈ gtbl := mg (mm_5 (List.mem_of_getElem? (i := 209) rfl)) rfl
set_option maxRecDepth 20000 in
theorem m_5_210 : (Jvm.Cond.methodLink "DrawerGlovesModel" (212 : Nat) ({ cls := "DrawerGlovesModel", name := "measure", desc := "()V" } : Jvm.MethodName)) ∈ gtbl := mg (mm_5 (List.mem_of_getElem? (i := 210) rfl)) rfl
set_option maxRecDepth 20000 in
theorem m_5_212 : (Jvm.Cond.instanceMethod ({ cls := "DrawerGlovesModel", name := "measure", desc := "()V" } : Jvm.MethodName)) ∈ gtbl := mg (mm_5 (List.mem_of_getElem? (i := 212) rfl)) rfl
set_option maxRecDepth 20000 in
theorem m_5_213 : (Jvm.Cond.code ({ cls := "DrawerGlovesModel", name := "measure", desc := "()V" } : Jvm.MethodName) prog_13_method_52_code (7 : Nat) (Option.none : Option Jvm.ClassFile.FieldType)) ∈ gtbl := mg (mm_5 (List.mem_of_getElem? (i := 213) rfl)) rfl
set_option maxRecDepth 20000 in
theorem m_5_214 : (Jvm.Cond.methodLink "DrawerGlovesModel" (209 : Nat) ({ cls := "DrawerGlovesModel", name := "lowestOf", desc := "(I)I" } : Jvm.MethodName)) ∈ gtbl := mg (mm_5 (List.mem_of_getElem? (i := 214) rfl)) rfl
set_option maxRecDepth 20000 in
theorem m_5_215 : (Jvm.Cond.static ({ cls := "DrawerGlovesModel", name := "lowestOf", desc := "(I)I" } : Jvm.MethodName)) ∈ gtbl := mg (mm_5 (List.mem_of_getElem? (i := 215) rfl)) rfl
set_option maxRecDepth 20000 in
theorem m_5_216 : (Jvm.Cond.code ({ cls := "DrawerGlovesModel", name := "lowestOf", desc := "(I)I" } : Jvm.MethodName) prog_13_method_51_code (2 : Nat) (Option.some Jvm.ClassFile.FieldType.int)) ∈ gtbl := mg (mm_5 (List.mem_of_getElem? (i := 216) rfl)) rfl
set_option maxRecDepth 20000 in
theorem m_5_217 : (Jvm.Cond.methodLink "DrawerGlovesLaw" (104 : Nat) ({ cls := "DrawerGlovesModel", name := "pairs", desc := "(I)I" } : Jvm.MethodName)) ∈ gtbl := mg (mm_5 (List.mem_of_getElem? (i := 217) rfl)) rfl
set_option maxRecDepth 20000 in
theorem m_5_218 : (Jvm.Cond.instanceMethod ({ cls := "DrawerGlovesModel", name := "pairs", desc := "(I)I" } : Jvm.MethodName)) ∈ gtbl := mg (mm_5 (List.mem_of_getElem? (i := 218) rfl)) rfl
set_option maxRecDepth 20000 in
theorem m_5_219 : (Jvm.Cond.selects "DrawerGlovesModel" ({ cls := "DrawerGlovesModel", name := "pairs", desc := "(I)I" } : Jvm.MethodName) ({ cls := "DrawerGlovesModel", name := "pairs", desc := "(I)I" } : Jvm.MethodName)) ∈ gtbl := mg (mm_5 (List.mem_of_getElem? (i := 219) rfl)) rfl
set_option maxRecDepth 20000 in
theorem m_5_220 : (Jvm.Cond.code ({ cls := "DrawerGlovesModel", name := "pairs", desc := "(I)I" } : Jvm.MethodName) prog_13_method_54_code (9 : Nat) (Option.some Jvm.ClassFile.FieldType.int)) ∈ gtbl := mg (mm_5 (List.mem_of_getElem? (i := 220) rfl)) rfl
set_option maxRecDepth 20000 in
theorem m_5_221 : (Jvm.Cond.methodLink "DrawerGlovesLaw" (109 : Nat) ({ cls := "DrawerGlovesModel", name := "missed", desc := "()I" } : Jvm.MethodName)) ∈ gtbl := mg (mm_5 (List.mem_of_getElem? (i := 221) rfl)) rfl
set_option maxRecDepth 20000 in
theorem m_5_222 : (Jvm.Cond.instanceMethod ({ cls := "DrawerGlovesModel", name := "missed", desc := "()I" } : Jvm.MethodName)) ∈ gtbl := mg (mm_5 (List.mem_of_getElem? (i := 222) rfl)) rfl
set_option maxRecDepth 20000 in
theorem m_5_223 : (Jvm.Cond.selects "DrawerGlovesModel" ({ cls := "DrawerGlovesModel", name := "missed", desc := "()I" } : Jvm.MethodName) ({ cls := "DrawerGlovesModel", name := "missed", desc := "()I" } : Jvm.MethodName)) ∈ gtbl := mg (mm_5 (List.mem_of_getElem? (i := 223) rfl)) rfl
set_option maxRecDepth 20000 in
theorem m_5_224 : (Jvm.Cond.code ({ cls := "DrawerGlovesModel", name := "missed", desc := "()I" } : Jvm.MethodName) prog_13_method_55_code (6 : Nat) (Option.some Jvm.ClassFile.FieldType.int)) ∈ gtbl := mg (mm_5 (List.mem_of_getElem? (i := 224) rfl)) rfl
set_option maxRecDepth 20000 in
theorem m_5_225 : (Jvm.Cond.methodLink "DrawerGlovesLaw" (113 : Nat) ({ cls := "DrawerGlovesModel", name := "wished", desc := "()I" } : Jvm.MethodName)) ∈ gtbl := mg (mm_5 (List.mem_of_getElem? (i := 225) rfl)) rfl
set_option maxRecDepth 20000 in
theorem m_5_226 : (Jvm.Cond.instanceMethod ({ cls := "DrawerGlovesModel", name := "wished", desc := "()I" } : Jvm.MethodName)) ∈ gtbl := mg (mm_5 (List.mem_of_getElem? (i := 226) rfl)) rfl
set_option maxRecDepth 20000 in
theorem m_5_227 : (Jvm.Cond.selects "DrawerGlovesModel" ({ cls := "DrawerGlovesModel", name := "wished", desc := "()I" } : Jvm.MethodName) ({ cls := "DrawerGlovesModel", name := "wished", desc := "()I" } : Jvm.MethodName)) ∈ gtbl := mg (mm_5 (List.mem_of_getElem? (i := 227) rfl)) rfl
set_option maxRecDepth 20000 in
theorem m_5_228 : (Jvm.Cond.code ({ cls := "DrawerGlovesModel", name := "wished", desc := "()I" } : Jvm.MethodName) prog_13_method_56_code (6 : Nat) (Option.some Jvm.ClassFile.FieldType.int)) ∈ gtbl := mg (mm_5 (List.mem_of_getElem? (i := 228) rfl)) rfl
set_option maxRecDepth 20000 in
theorem m_5_229 : (Jvm.Cond.methodLink "DrawerGlovesLaw" (117 : Nat) ({ cls := "DrawerGlovesModel", name := "days", desc := "(II)I" } : Jvm.MethodName)) ∈ gtbl := mg (mm_5 (List.mem_of_getElem? (i := 229) rfl)) rfl
set_option maxRecDepth 20000 in
theorem m_5_230 : (Jvm.Cond.instanceMethod ({ cls := "DrawerGlovesModel", name := "days", desc := "(II)I" } : Jvm.MethodName)) ∈ gtbl := mg (mm_5 (List.mem_of_getElem? (i := 230) rfl)) rfl
set_option maxRecDepth 20000 in
theorem m_5_231 : (Jvm.Cond.selects "DrawerGlovesModel" ({ cls := "DrawerGlovesModel", name := "days", desc := "(II)I" } : Jvm.MethodName) ({ cls := "DrawerGlovesModel", name := "days", desc := "(II)I" } : Jvm.MethodName)) ∈ gtbl := mg (mm_5 (List.mem_of_getElem? (i := 231) rfl)) rfl
set_option maxRecDepth 20000 in
theorem m_5_232 : (Jvm.Cond.code ({ cls := "DrawerGlovesModel", name := "days", desc := "(II)I" } : Jvm.MethodName) prog_13_method_60_code (10 : Nat) (Option.some Jvm.ClassFile.FieldType.int)) ∈ gtbl := mg (mm_5 (List.mem_of_getElem? (i := 232) rfl)) rfl
set_option maxRecDepth 20000 in
theorem m_5_233 : (Jvm.Cond.methodLink "DrawerGlovesModel" (218 : Nat) ({ cls := "DrawerGlovesModel", name := "listTwos", desc := "()V" } : Jvm.MethodName)) ∈ gtbl := mg (mm_5 (List.mem_of_getElem? (i := 233) rfl)) rfl
set_option maxRecDepth 20000 in
theorem m_5_235 : (Jvm.Cond.instanceMethod ({ cls := "DrawerGlovesModel", name := "listTwos", desc := "()V" } : Jvm.MethodName)) ∈ gtbl := mg (mm_5 (List.mem_of_getElem? (i := 235) rfl)) rfl
set_option maxRecDepth 20000 in
theorem m_5_236 : (Jvm.Cond.code ({ cls := "DrawerGlovesModel", name := "listTwos", desc := "()V" } : Jvm.MethodName) prog_13_method_57_code (3 : Nat) (Option.none : Option Jvm.ClassFile.FieldType)) ∈ gtbl := mg (mm_5 (List.mem_of_getElem? (i := 236) rfl)) rfl
set_option maxRecDepth 20000 in
theorem m_5_237 : (Jvm.Cond.methodLink "DrawerGlovesModel" (221 : Nat) ({ cls := "DrawerGlovesModel", name := "useOf", desc := "(I)I" } : Jvm.MethodName)) ∈ gtbl := mg (mm_5 (List.mem_of_getElem? (i := 237) rfl)) rfl
set_option maxRecDepth 20000 in
theorem m_5_239 : (Jvm.Cond.instanceMethod ({ cls := "DrawerGlovesModel", name := "useOf", desc := "(I)I" } : Jvm.MethodName)) ∈ gtbl := mg (mm_5 (List.mem_of_getElem? (i := 239) rfl)) rfl
set_option maxRecDepth 20000 in
theorem m_6_0 : (Jvm.Cond.code ({ cls := "DrawerGlovesModel", name := "useOf", desc := "(I)I" } : Jvm.MethodName) prog_13_method_58_code (3 : Nat) (Option.some Jvm.ClassFile.FieldType.int)) ∈ gtbl := mg (mm_6 (List.mem_of_getElem? (i := 0) rfl)) rfl
set_option maxRecDepth 20000 in
theorem m_6_1 : (Jvm.Cond.methodLink "DrawerGlovesModel" (224 : Nat) ({ cls := "DrawerGlovesModel", name := "takeOff", desc := "(I)V" } : Jvm.MethodName)) ∈ gtbl := mg (mm_6 (List.mem_of_getElem? (i := 1) rfl)) rfl
set_option maxRecDepth 20000 in
theorem m_6_3 : (Jvm.Cond.instanceMethod ({ cls := "DrawerGlovesModel", name := "takeOff", desc := "(I)V" } : Jvm.MethodName)) ∈ gtbl := mg (mm_6 (List.mem_of_getElem? (i := 3) rfl)) rfl
set_option maxRecDepth 20000 in
theorem m_6_4 : (Jvm.Cond.code ({ cls := "DrawerGlovesModel", name := "takeOff", desc := "(I)V" } : Jvm.MethodName) prog_13_method_59_code (2 : Nat) (Option.none : Option Jvm.ClassFile.FieldType)) ∈ gtbl := mg (mm_6 (List.mem_of_getElem? (i := 4) rfl)) rfl
set_option maxRecDepth 20000 in
theorem m_6_5 : (Jvm.Cond.methodLink "DrawerGlovesLaw" (121 : Nat) ({ cls := "DrawerGlovesModel", name := "room", desc := "()I" } : Jvm.MethodName)) ∈ gtbl := mg (mm_6 (List.mem_of_getElem? (i := 5) rfl)) rfl
set_option maxRecDepth 20000 in
theorem m_6_6 : (Jvm.Cond.instanceMethod ({ cls := "DrawerGlovesModel", name := "room", desc := "()I" } : Jvm.MethodName)) ∈ gtbl := mg (mm_6 (List.mem_of_getElem? (i := 6) rfl)) rfl
set_option maxRecDepth 20000 in
theorem m_6_7 : (Jvm.Cond.selects "DrawerGlovesModel" ({ cls := "DrawerGlovesModel", name := "room", desc := "()I" } : Jvm.MethodName) ({ cls := "DrawerGlovesModel", name := "room", desc := "()I" } : Jvm.MethodName)) ∈ gtbl := mg (mm_6 (List.mem_of_getElem? (i := 7) rfl)) rfl
set_option maxRecDepth 20000 in
theorem m_6_8 : (Jvm.Cond.code ({ cls := "DrawerGlovesModel", name := "room", desc := "()I" } : Jvm.MethodName) prog_13_method_62_code (5 : Nat) (Option.some Jvm.ClassFile.FieldType.int)) ∈ gtbl := mg (mm_6 (List.mem_of_getElem? (i := 8) rfl)) rfl
set_option maxRecDepth 20000 in
theorem m_6_9 : (Jvm.Cond.methodLink "DrawerGlovesModel" (227 : Nat) ({ cls := "DrawerGlovesModel", name := "worstOf", desc := "(I)I" } : Jvm.MethodName)) ∈ gtbl := mg (mm_6 (List.mem_of_getElem? (i := 9) rfl)) rfl
set_option maxRecDepth 20000 in
theorem m_6_11 : (Jvm.Cond.instanceMethod ({ cls := "DrawerGlovesModel", name := "worstOf", desc := "(I)I" } : Jvm.MethodName)) ∈ gtbl := mg (mm_6 (List.mem_of_getElem? (i := 11) rfl)) rfl
set_option maxRecDepth 20000 in
theorem m_6_12 : (Jvm.Cond.code ({ cls := "DrawerGlovesModel", name := "worstOf", desc := "(I)I" } : Jvm.MethodName) prog_13_method_61_code (5 : Nat) (Option.some Jvm.ClassFile.FieldType.int)) ∈ gtbl := mg (mm_6 (List.mem_of_getElem? (i := 12) rfl)) rfl
set_option maxRecDepth 20000 in
theorem m_6_13 : (Jvm.Cond.methodLink "DrawerGlovesLaw" (125 : Nat) ({ cls := "DrawerGlovesModel", name := "join", desc := "(II)I" } : Jvm.MethodName)) ∈ gtbl := mg (mm_6 (List.mem_of_getElem? (i := 13) rfl)) rfl
set_option maxRecDepth 20000 in
theorem m_6_14 : (Jvm.Cond.instanceMethod ({ cls := "DrawerGlovesModel", name := "join", desc := "(II)I" } : Jvm.MethodName)) ∈ gtbl := mg (mm_6 (List.mem_of_getElem? (i := 14) rfl)) rfl
set_option maxRecDepth 20000 in
theorem m_6_15 : (Jvm.Cond.selects "DrawerGlovesModel" ({ cls := "DrawerGlovesModel", name := "join", desc := "(II)I" } : Jvm.MethodName) ({ cls := "DrawerGlovesModel", name := "join", desc := "(II)I" } : Jvm.MethodName)) ∈ gtbl := mg (mm_6 (List.mem_of_getElem? (i := 15) rfl)) rfl
set_option maxRecDepth 20000 in
theorem m_6_16 : (Jvm.Cond.code ({ cls := "DrawerGlovesModel", name := "join", desc := "(II)I" } : Jvm.MethodName) prog_13_method_63_code (3 : Nat) (Option.some Jvm.ClassFile.FieldType.int)) ∈ gtbl := mg (mm_6 (List.mem_of_getElem? (i := 16) rfl)) rfl
set_option maxRecDepth 20000 in
theorem m_6_17 : (Jvm.Cond.methodLink "DrawerGlovesLaw" (129 : Nat) ({ cls := "DrawerGlovesModel", name := "sorts", desc := "(II)I" } : Jvm.MethodName)) ∈ gtbl := mg (mm_6 (List.mem_of_getElem? (i := 17) rfl)) rfl
set_option maxRecDepth 20000 in
theorem m_6_18 : (Jvm.Cond.instanceMethod ({ cls := "DrawerGlovesModel", name := "sorts", desc := "(II)I" } : Jvm.MethodName)) ∈ gtbl := mg (mm_6 (List.mem_of_getElem? (i := 18) rfl)) rfl
set_option maxRecDepth 20000 in
theorem m_6_19 : (Jvm.Cond.selects "DrawerGlovesModel" ({ cls := "DrawerGlovesModel", name := "sorts", desc := "(II)I" } : Jvm.MethodName) ({ cls := "DrawerGlovesModel", name := "sorts", desc := "(II)I" } : Jvm.MethodName)) ∈ gtbl := mg (mm_6 (List.mem_of_getElem? (i := 19) rfl)) rfl
set_option maxRecDepth 20000 in
theorem m_6_20 : (Jvm.Cond.code ({ cls := "DrawerGlovesModel", name := "sorts", desc := "(II)I" } : Jvm.MethodName) prog_13_method_66_code (6 : Nat) (Option.some Jvm.ClassFile.FieldType.int)) ∈ gtbl := mg (mm_6 (List.mem_of_getElem? (i := 20) rfl)) rfl
set_option maxRecDepth 20000 in
theorem m_6_21 : (Jvm.Cond.methodLink "DrawerGlovesModel" (230 : Nat) ({ cls := "DrawerGlovesModel", name := "judge", desc := "(II)I" } : Jvm.MethodName)) ∈ gtbl := mg (mm_6 (List.mem_of_getElem? (i := 21) rfl)) rfl
set_option maxRecDepth 20000 in
theorem m_6_23 : (Jvm.Cond.instanceMethod ({ cls := "DrawerGlovesModel", name := "judge", desc := "(II)I" } : Jvm.MethodName)) ∈ gtbl := mg (mm_6 (List.mem_of_getElem? (i := 23) rfl)) rfl
set_option maxRecDepth 20000 in
theorem m_6_24 : (Jvm.Cond.code ({ cls := "DrawerGlovesModel", name := "judge", desc := "(II)I" } : Jvm.MethodName) prog_13_method_64_code (7 : Nat) (Option.some Jvm.ClassFile.FieldType.int)) ∈ gtbl := mg (mm_6 (List.mem_of_getElem? (i := 24) rfl)) rfl
set_option maxRecDepth 20000 in
theorem m_6_25 : (Jvm.Cond.methodLink "DrawerGlovesModel" (233 : Nat) ({ cls := "DrawerGlovesModel", name := "isSo", desc := "(IIIII)Z" } : Jvm.MethodName)) ∈ gtbl := mg (mm_6 (List.mem_of_getElem? (i := 25) rfl)) rfl
set_option maxRecDepth 20000 in
theorem m_6_27 : (Jvm.Cond.instanceMethod ({ cls := "DrawerGlovesModel", name := "isSo", desc := "(IIIII)Z" } : Jvm.MethodName)) ∈ gtbl := mg (mm_6 (List.mem_of_getElem? (i := 27) rfl)) rfl
set_option maxRecDepth 20000 in
theorem m_6_28 : (Jvm.Cond.code ({ cls := "DrawerGlovesModel", name := "isSo", desc := "(IIIII)Z" } : Jvm.MethodName) prog_13_method_65_code (8 : Nat) (Option.some Jvm.ClassFile.FieldType.boolean)) ∈ gtbl := mg (mm_6 (List.mem_of_getElem? (i := 28) rfl)) rfl
set_option maxRecDepth 20000 in
theorem m_6_29 : (Jvm.Cond.methodLink "DrawerGlovesLaw" (133 : Nat) ({ cls := "DrawerGlovesModel", name := "hands", desc := "(II)I" } : Jvm.MethodName)) ∈ gtbl := mg (mm_6 (List.mem_of_getElem? (i := 29) rfl)) rfl
set_option maxRecDepth 20000 in
theorem m_6_30 : (Jvm.Cond.instanceMethod ({ cls := "DrawerGlovesModel", name := "hands", desc := "(II)I" } : Jvm.MethodName)) ∈ gtbl := mg (mm_6 (List.mem_of_getElem? (i := 30) rfl)) rfl
set_option maxRecDepth 20000 in
theorem m_6_31 : (Jvm.Cond.selects "DrawerGlovesModel" ({ cls := "DrawerGlovesModel", name := "hands", desc := "(II)I" } : Jvm.MethodName) ({ cls := "DrawerGlovesModel", name := "hands", desc := "(II)I" } : Jvm.MethodName)) ∈ gtbl := mg (mm_6 (List.mem_of_getElem? (i := 31) rfl)) rfl
set_option maxRecDepth 20000 in
theorem m_6_32 : (Jvm.Cond.code ({ cls := "DrawerGlovesModel", name := "hands", desc := "(II)I" } : Jvm.MethodName) prog_13_method_67_code (6 : Nat) (Option.some Jvm.ClassFile.FieldType.int)) ∈ gtbl := mg (mm_6 (List.mem_of_getElem? (i := 32) rfl)) rfl
set_option maxRecDepth 20000 in
theorem m_6_33 : (Jvm.Cond.methodLink "DrawerGlovesLaw" (137 : Nat) ({ cls := "DrawerGlovesModel", name := "kinds", desc := "(II)I" } : Jvm.MethodName)) ∈ gtbl := mg (mm_6 (List.mem_of_getElem? (i := 33) rfl)) rfl
set_option maxRecDepth 20000 in
theorem m_6_34 : (Jvm.Cond.instanceMethod ({ cls := "DrawerGlovesModel", name := "kinds", desc := "(II)I" } : Jvm.MethodName)) ∈ gtbl := mg (mm_6 (List.mem_of_getElem? (i := 34) rfl)) rfl
set_option maxRecDepth 20000 in
theorem m_6_35 : (Jvm.Cond.selects "DrawerGlovesModel" ({ cls := "DrawerGlovesModel", name := "kinds", desc := "(II)I" } : Jvm.MethodName) ({ cls := "DrawerGlovesModel", name := "kinds", desc := "(II)I" } : Jvm.MethodName)) ∈ gtbl := mg (mm_6 (List.mem_of_getElem? (i := 35) rfl)) rfl
set_option maxRecDepth 20000 in
theorem m_6_36 : (Jvm.Cond.code ({ cls := "DrawerGlovesModel", name := "kinds", desc := "(II)I" } : Jvm.MethodName) prog_13_method_69_code (4 : Nat) (Option.some Jvm.ClassFile.FieldType.int)) ∈ gtbl := mg (mm_6 (List.mem_of_getElem? (i := 36) rfl)) rfl
set_option maxRecDepth 20000 in
theorem m_6_37 : (Jvm.Cond.methodLink "DrawerGlovesModel" (237 : Nat) ({ cls := "DrawerGlovesModel", name := "kindsBy", desc := "(II)I" } : Jvm.MethodName)) ∈ gtbl := mg (mm_6 (List.mem_of_getElem? (i := 37) rfl)) rfl
set_option maxRecDepth 20000 in
theorem m_6_39 : (Jvm.Cond.instanceMethod ({ cls := "DrawerGlovesModel", name := "kindsBy", desc := "(II)I" } : Jvm.MethodName)) ∈ gtbl := mg (mm_6 (List.mem_of_getElem? (i := 39) rfl)) rfl
set_option maxRecDepth 20000 in
theorem m_6_40 : (Jvm.Cond.code ({ cls := "DrawerGlovesModel", name := "kindsBy", desc := "(II)I" } : Jvm.MethodName) prog_13_method_68_code (5 : Nat) (Option.some Jvm.ClassFile.FieldType.int)) ∈ gtbl := mg (mm_6 (List.mem_of_getElem? (i := 40) rfl)) rfl
set_option maxRecDepth 20000 in
theorem m_6_41 : (Jvm.Cond.methodLink "DrawerGlovesLaw" (141 : Nat) ({ cls := "DrawerGlovesModel", name := "test", desc := "(II)I" } : Jvm.MethodName)) ∈ gtbl := mg (mm_6 (List.mem_of_getElem? (i := 41) rfl)) rfl
set_option maxRecDepth 20000 in
theorem m_6_42 : (Jvm.Cond.instanceMethod ({ cls := "DrawerGlovesModel", name := "test", desc := "(II)I" } : Jvm.MethodName)) ∈ gtbl := mg (mm_6 (List.mem_of_getElem? (i := 42) rfl)) rfl
set_option maxRecDepth 20000 in
theorem m_6_43 : (Jvm.Cond.selects "DrawerGlovesModel" ({ cls := "DrawerGlovesModel", name := "test", desc := "(II)I" } : Jvm.MethodName) ({ cls := "DrawerGlovesModel", name := "test", desc := "(II)I" } : Jvm.MethodName)) ∈ gtbl := mg (mm_6 (List.mem_of_getElem? (i := 43) rfl)) rfl
set_option maxRecDepth 20000 in
theorem m_6_44 : (Jvm.Cond.code ({ cls := "DrawerGlovesModel", name := "test", desc := "(II)I" } : Jvm.MethodName) prog_13_method_71_code (9 : Nat) (Option.some Jvm.ClassFile.FieldType.int)) ∈ gtbl := mg (mm_6 (List.mem_of_getElem? (i := 44) rfl)) rfl
set_option maxRecDepth 20000 in
theorem m_6_45 : (Jvm.Cond.methodLink "DrawerGlovesModel" (240 : Nat) ({ cls := "DrawerGlovesModel", name := "partBy", desc := "(III)I" } : Jvm.MethodName)) ∈ gtbl := mg (mm_6 (List.mem_of_getElem? (i := 45) rfl)) rfl
set_option maxRecDepth 20000 in
theorem m_6_47 : (Jvm.Cond.instanceMethod ({ cls := "DrawerGlovesModel", name := "partBy", desc := "(III)I" } : Jvm.MethodName)) ∈ gtbl := mg (mm_6 (List.mem_of_getElem? (i := 47) rfl)) rfl
set_option maxRecDepth 20000 in
theorem m_6_48 : (Jvm.Cond.code ({ cls := "DrawerGlovesModel", name := "partBy", desc := "(III)I" } : Jvm.MethodName) prog_13_method_70_code (9 : Nat) (Option.some Jvm.ClassFile.FieldType.int)) ∈ gtbl := mg (mm_6 (List.mem_of_getElem? (i := 48) rfl)) rfl
set_option maxRecDepth 20000 in
theorem m_6_49 : (Jvm.Cond.methodLink "DrawerGlovesLaw" (145 : Nat) ({ cls := "DrawerGlovesModel", name := "duel", desc := "(I)I" } : Jvm.MethodName)) ∈ gtbl := mg (mm_6 (List.mem_of_getElem? (i := 49) rfl)) rfl
set_option maxRecDepth 20000 in
theorem m_6_50 : (Jvm.Cond.instanceMethod ({ cls := "DrawerGlovesModel", name := "duel", desc := "(I)I" } : Jvm.MethodName)) ∈ gtbl := mg (mm_6 (List.mem_of_getElem? (i := 50) rfl)) rfl
set_option maxRecDepth 20000 in
theorem m_6_51 : (Jvm.Cond.selects "DrawerGlovesModel" ({ cls := "DrawerGlovesModel", name := "duel", desc := "(I)I" } : Jvm.MethodName) ({ cls := "DrawerGlovesModel", name := "duel", desc := "(I)I" } : Jvm.MethodName)) ∈ gtbl := mg (mm_6 (List.mem_of_getElem? (i := 51) rfl)) rfl
set_option maxRecDepth 20000 in
theorem m_6_52 : (Jvm.Cond.code ({ cls := "DrawerGlovesModel", name := "duel", desc := "(I)I" } : Jvm.MethodName) prog_13_method_74_code (9 : Nat) (Option.some Jvm.ClassFile.FieldType.int)) ∈ gtbl := mg (mm_6 (List.mem_of_getElem? (i := 52) rfl)) rfl
set_option maxRecDepth 20000 in
theorem m_6_53 : (Jvm.Cond.methodLink "DrawerGlovesModel" (244 : Nat) ({ cls := "DrawerGlovesModel", name := "unitOf", desc := "(I)I" } : Jvm.MethodName)) ∈ gtbl := mg (mm_6 (List.mem_of_getElem? (i := 53) rfl)) rfl
set_option maxRecDepth 20000 in
theorem m_6_54 : (Jvm.Cond.static ({ cls := "DrawerGlovesModel", name := "unitOf", desc := "(I)I" } : Jvm.MethodName)) ∈ gtbl := mg (mm_6 (List.mem_of_getElem? (i := 54) rfl)) rfl
set_option maxRecDepth 20000 in
theorem m_6_55 : (Jvm.Cond.code ({ cls := "DrawerGlovesModel", name := "unitOf", desc := "(I)I" } : Jvm.MethodName) prog_13_method_72_code (3 : Nat) (Option.some Jvm.ClassFile.FieldType.int)) ∈ gtbl := mg (mm_6 (List.mem_of_getElem? (i := 55) rfl)) rfl
set_option maxRecDepth 20000 in
theorem m_6_56 : (Jvm.Cond.methodLink "DrawerGlovesModel" (247 : Nat) ({ cls := "DrawerGlovesModel", name := "hasOf", desc := "(II)I" } : Jvm.MethodName)) ∈ gtbl := mg (mm_6 (List.mem_of_getElem? (i := 56) rfl)) rfl
set_option maxRecDepth 20000 in
theorem m_6_58 : (Jvm.Cond.instanceMethod ({ cls := "DrawerGlovesModel", name := "hasOf", desc := "(II)I" } : Jvm.MethodName)) ∈ gtbl := mg (mm_6 (List.mem_of_getElem? (i := 58) rfl)) rfl
set_option maxRecDepth 20000 in
theorem m_6_59 : (Jvm.Cond.code ({ cls := "DrawerGlovesModel", name := "hasOf", desc := "(II)I" } : Jvm.MethodName) prog_13_method_73_code (6 : Nat) (Option.some Jvm.ClassFile.FieldType.int)) ∈ gtbl := mg (mm_6 (List.mem_of_getElem? (i := 59) rfl)) rfl
set_option maxRecDepth 20000 in
theorem m_6_60 : (Jvm.Cond.methodLink "DrawerGlovesModel" (250 : Nat) ({ cls := "DrawerGlovesModel", name := "bestTurn", desc := "(III)I" } : Jvm.MethodName)) ∈ gtbl := mg (mm_6 (List.mem_of_getElem? (i := 60) rfl)) rfl
set_option maxRecDepth 20000 in
theorem m_6_62 : (Jvm.Cond.instanceMethod ({ cls := "DrawerGlovesModel", name := "bestTurn", desc := "(III)I" } : Jvm.MethodName)) ∈ gtbl := mg (mm_6 (List.mem_of_getElem? (i := 62) rfl)) rfl
set_option maxRecDepth 20000 in
theorem m_6_63 : (Jvm.Cond.code ({ cls := "DrawerGlovesModel", name := "bestTurn", desc := "(III)I" } : Jvm.MethodName) prog_13_method_75_code (8 : Nat) (Option.some Jvm.ClassFile.FieldType.int)) ∈ gtbl := mg (mm_6 (List.mem_of_getElem? (i := 63) rfl)) rfl
set_option maxRecDepth 20000 in
theorem m_6_64 : (Jvm.Cond.methodLink "DrawerGlovesLaw" (149 : Nat) ({ cls := "DrawerGlovesModel", name := "odds", desc := "(III)I" } : Jvm.MethodName)) ∈ gtbl := mg (mm_6 (List.mem_of_getElem? (i := 64) rfl)) rfl
set_option maxRecDepth 20000 in
theorem m_6_65 : (Jvm.Cond.instanceMethod ({ cls := "DrawerGlovesModel", name := "odds", desc := "(III)I" } : Jvm.MethodName)) ∈ gtbl := mg (mm_6 (List.mem_of_getElem? (i := 65) rfl)) rfl
set_option maxRecDepth 20000 in
theorem m_6_66 : (Jvm.Cond.selects "DrawerGlovesModel" ({ cls := "DrawerGlovesModel", name := "odds", desc := "(III)I" } : Jvm.MethodName) ({ cls := "DrawerGlovesModel", name := "odds", desc := "(III)I" } : Jvm.MethodName)) ∈ gtbl := mg (mm_6 (List.mem_of_getElem? (i := 66) rfl)) rfl
set_option maxRecDepth 20000 in
theorem m_6_67 : (Jvm.Cond.code ({ cls := "DrawerGlovesModel", name := "odds", desc := "(III)I" } : Jvm.MethodName) prog_13_method_80_code (8 : Nat) (Option.some Jvm.ClassFile.FieldType.int)) ∈ gtbl := mg (mm_6 (List.mem_of_getElem? (i := 67) rfl)) rfl
set_option maxRecDepth 20000 in
theorem m_6_68 : (Jvm.Cond.methodLink "DrawerGlovesModel" (258 : Nat) ({ cls := "DrawerGlovesModel", name := "areOf", desc := "(II)Z" } : Jvm.MethodName)) ∈ gtbl := mg (mm_6 (List.mem_of_getElem? (i := 68) rfl)) rfl
set_option maxRecDepth 20000 in
theorem m_6_69 : (Jvm.Cond.static ({ cls := "DrawerGlovesModel", name := "areOf", desc := "(II)Z" } : Jvm.MethodName)) ∈ gtbl := mg (mm_6 (List.mem_of_getElem? (i := 69) rfl)) rfl
set_option maxRecDepth 20000 in
theorem m_6_70 : (Jvm.Cond.code ({ cls := "DrawerGlovesModel", name := "areOf", desc := "(II)Z" } : Jvm.MethodName) prog_13_method_76_code (2 : Nat) (Option.some Jvm.ClassFile.FieldType.boolean)) ∈ gtbl := mg (mm_6 (List.mem_of_getElem? (i := 70) rfl)) rfl
set_option maxRecDepth 20000 in
theorem m_6_71 : (Jvm.Cond.methodLink "DrawerGlovesModel" (261 : Nat) ({ cls := "DrawerGlovesModel", name := "waysOf", desc := "(IIII)J" } : Jvm.MethodName)) ∈ gtbl := mg (mm_6 (List.mem_of_getElem? (i := 71) rfl)) rfl
set_option maxRecDepth 20000 in
theorem m_6_73 : (Jvm.Cond.instanceMethod ({ cls := "DrawerGlovesModel", name := "waysOf", desc := "(IIII)J" } : Jvm.MethodName)) ∈ gtbl := mg (mm_6 (List.mem_of_getElem? (i := 73) rfl)) rfl
set_option maxRecDepth 20000 in
theorem m_6_74 : (Jvm.Cond.code ({ cls := "DrawerGlovesModel", name := "waysOf", desc := "(IIII)J" } : Jvm.MethodName) prog_13_method_78_code (9 : Nat) (Option.some Jvm.ClassFile.FieldType.long)) ∈ gtbl := mg (mm_6 (List.mem_of_getElem? (i := 74) rfl)) rfl
set_option maxRecDepth 20000 in
theorem m_6_75 : (Jvm.Cond.methodLink "DrawerGlovesModel" (253 : Nat) ({ cls := "DrawerGlovesModel", name := "lossOf", desc := "(III)I" } : Jvm.MethodName)) ∈ gtbl := mg (mm_6 (List.mem_of_getElem? (i := 75) rfl)) rfl
set_option maxRecDepth 20000 in
theorem m_6_77 : (Jvm.Cond.instanceMethod ({ cls := "DrawerGlovesModel", name := "lossOf", desc := "(III)I" } : Jvm.MethodName)) ∈ gtbl := mg (mm_6 (List.mem_of_getElem? (i := 77) rfl)) rfl
set_option maxRecDepth 20000 in
theorem m_6_78 : (Jvm.Cond.code ({ cls := "DrawerGlovesModel", name := "lossOf", desc := "(III)I" } : Jvm.MethodName) prog_13_method_77_code (4 : Nat) (Option.some Jvm.ClassFile.FieldType.int)) ∈ gtbl := mg (mm_6 (List.mem_of_getElem? (i := 78) rfl)) rfl
set_option maxRecDepth 20000 in
theorem m_6_79 : (Jvm.Cond.methodLink "DrawerGlovesModel" (265 : Nat) ({ cls := "DrawerGlovesModel", name := "allWays", desc := "(I)J" } : Jvm.MethodName)) ∈ gtbl := mg (mm_6 (List.mem_of_getElem? (i := 79) rfl)) rfl
set_option maxRecDepth 20000 in
theorem m_6_81 : (Jvm.Cond.instanceMethod ({ cls := "DrawerGlovesModel", name := "allWays", desc := "(I)J" } : Jvm.MethodName)) ∈ gtbl := mg (mm_6 (List.mem_of_getElem? (i := 81) rfl)) rfl
set_option maxRecDepth 20000 in
theorem m_6_82 : (Jvm.Cond.code ({ cls := "DrawerGlovesModel", name := "allWays", desc := "(I)J" } : Jvm.MethodName) prog_13_method_79_code (5 : Nat) (Option.some Jvm.ClassFile.FieldType.long)) ∈ gtbl := mg (mm_6 (List.mem_of_getElem? (i := 82) rfl)) rfl
set_option maxRecDepth 20000 in
theorem m_6_83 : (Jvm.Cond.constantLong "DrawerGlovesModel" (256 : Nat) (12 : Int64)) ∈ gtbl := mg (mm_6 (List.mem_of_getElem? (i := 83) rfl)) rfl
set_option maxRecDepth 20000 in
theorem m_6_84 : (Jvm.Cond.methodLink "DrawerGlovesModel" (269 : Nat) ({ cls := "DrawerGlovesModel", name := "tellPart", desc := "(JJ)V" } : Jvm.MethodName)) ∈ gtbl := mg (mm_6 (List.mem_of_getElem? (i := 84) rfl)) rfl
set_option maxRecDepth 20000 in
theorem m_6_86 : (Jvm.Cond.instanceMethod ({ cls := "DrawerGlovesModel", name := "tellPart", desc := "(JJ)V" } : Jvm.MethodName)) ∈ gtbl := mg (mm_6 (List.mem_of_getElem? (i := 86) rfl)) rfl
set_option maxRecDepth 20000 in
theorem m_6_87 : (Jvm.Cond.code ({ cls := "DrawerGlovesModel", name := "tellPart", desc := "(JJ)V" } : Jvm.MethodName) prog_13_method_6_code (11 : Nat) (Option.none : Option Jvm.ClassFile.FieldType)) ∈ gtbl := mg (mm_6 (List.mem_of_getElem? (i := 87) rfl)) rfl
set_option maxRecDepth 20000 in
theorem m_6_88 : (Jvm.Cond.methodLink "DrawerGlovesLaw" (153 : Nat) ({ cls := "DrawerGlovesModel", name := "mid", desc := "(II)I" } : Jvm.MethodName)) ∈ gtbl := mg (mm_6 (List.mem_of_getElem? (i := 88) rfl)) rfl
set_option maxRecDepth 20000 in
theorem m_6_89 : (Jvm.Cond.instanceMethod ({ cls := "DrawerGlovesModel", name := "mid", desc := "(II)I" } : Jvm.MethodName)) ∈ gtbl := mg (mm_6 (List.mem_of_getElem? (i := 89) rfl)) rfl
set_option maxRecDepth 20000 in
theorem m_6_90 : (Jvm.Cond.selects "DrawerGlovesModel" ({ cls := "DrawerGlovesModel", name := "mid", desc := "(II)I" } : Jvm.MethodName) ({ cls := "DrawerGlovesModel", name := "mid", desc := "(II)I" } : Jvm.MethodName)) ∈ gtbl := mg (mm_6 (List.mem_of_getElem? (i := 90) rfl)) rfl
set_option maxRecDepth 20000 in
theorem m_6_91 : (Jvm.Cond.code ({ cls := "DrawerGlovesModel", name := "mid", desc := "(II)I" } : Jvm.MethodName) prog_13_method_81_code (7 : Nat) (Option.some Jvm.ClassFile.FieldType.int)) ∈ gtbl := mg (mm_6 (List.mem_of_getElem? (i := 91) rfl)) rfl
set_option maxRecDepth 20000 in
theorem m_6_92 : (Jvm.Cond.methodLink "DrawerGlovesLaw" (157 : Nat) ({ cls := "DrawerGlovesModel", name := "lots", desc := "(II)I" } : Jvm.MethodName)) ∈ gtbl := mg (mm_6 (List.mem_of_getElem? (i := 92) rfl)) rfl
set_option maxRecDepth 20000 in
theorem m_6_93 : (Jvm.Cond.instanceMethod ({ cls := "DrawerGlovesModel", name := "lots", desc := "(II)I" } : Jvm.MethodName)) ∈ gtbl := mg (mm_6 (List.mem_of_getElem? (i := 93) rfl)) rfl
set_option maxRecDepth 20000 in
theorem m_6_94 : (Jvm.Cond.selects "DrawerGlovesModel" ({ cls := "DrawerGlovesModel", name := "lots", desc := "(II)I" } : Jvm.MethodName) ({ cls := "DrawerGlovesModel", name := "lots", desc := "(II)I" } : Jvm.MethodName)) ∈ gtbl := mg (mm_6 (List.mem_of_getElem? (i := 94) rfl)) rfl
set_option maxRecDepth 20000 in
theorem m_6_95 : (Jvm.Cond.code ({ cls := "DrawerGlovesModel", name := "lots", desc := "(II)I" } : Jvm.MethodName) prog_13_method_82_code (7 : Nat) (Option.some Jvm.ClassFile.FieldType.int)) ∈ gtbl := mg (mm_6 (List.mem_of_getElem? (i := 95) rfl)) rfl
set_option maxRecDepth 20000 in
theorem m_6_96 : (Jvm.Cond.constant "DrawerGlovesModel" (273 : Nat) (2147483646 : Int32)) ∈ gtbl := mg (mm_6 (List.mem_of_getElem? (i := 96) rfl)) rfl
set_option maxRecDepth 20000 in
theorem m_6_97 : (Jvm.Cond.constantLong "DrawerGlovesModel" (274 : Nat) (48271 : Int64)) ∈ gtbl := mg (mm_6 (List.mem_of_getElem? (i := 97) rfl)) rfl
set_option maxRecDepth 20000 in
theorem m_6_98 : (Jvm.Cond.constantLong "DrawerGlovesModel" (276 : Nat) (2147483647 : Int64)) ∈ gtbl := mg (mm_6 (List.mem_of_getElem? (i := 98) rfl)) rfl
set_option maxRecDepth 20000 in
theorem m_6_99 : (Jvm.Cond.constantLong "DrawerGlovesModel" (278 : Nat) (8 : Int64)) ∈ gtbl := mg (mm_6 (List.mem_of_getElem? (i := 99) rfl)) rfl
set_option maxRecDepth 20000 in
theorem m_6_100 : (Jvm.Cond.methodLink "DrawerGlovesLaw" (161 : Nat) ({ cls := "DrawerGlovesModel", name := "asked", desc := "()I" } : Jvm.MethodName)) ∈ gtbl := mg (mm_6 (List.mem_of_getElem? (i := 100) rfl)) rfl
set_option maxRecDepth 20000 in
theorem m_6_101 : (Jvm.Cond.instanceMethod ({ cls := "DrawerGlovesModel", name := "asked", desc := "()I" } : Jvm.MethodName)) ∈ gtbl := mg (mm_6 (List.mem_of_getElem? (i := 101) rfl)) rfl
set_option maxRecDepth 20000 in
theorem m_6_102 : (Jvm.Cond.selects "DrawerGlovesModel" ({ cls := "DrawerGlovesModel", name := "asked", desc := "()I" } : Jvm.MethodName) ({ cls := "DrawerGlovesModel", name := "asked", desc := "()I" } : Jvm.MethodName)) ∈ gtbl := mg (mm_6 (List.mem_of_getElem? (i := 102) rfl)) rfl
set_option maxRecDepth 20000 in
theorem m_6_103 : (Jvm.Cond.code ({ cls := "DrawerGlovesModel", name := "asked", desc := "()I" } : Jvm.MethodName) prog_13_method_83_code (1 : Nat) (Option.some Jvm.ClassFile.FieldType.int)) ∈ gtbl := mg (mm_6 (List.mem_of_getElem? (i := 103) rfl)) rfl
set_option maxRecDepth 20000 in
theorem m_6_104 : (Jvm.Cond.methodLink "DrawerGlovesLaw" (166 : Nat) ({ cls := "DrawerGlovesModel", name := "upper", desc := "()J" } : Jvm.MethodName)) ∈ gtbl := mg (mm_6 (List.mem_of_getElem? (i := 104) rfl)) rfl
set_option maxRecDepth 20000 in
theorem m_6_105 : (Jvm.Cond.instanceMethod ({ cls := "DrawerGlovesModel", name := "upper", desc := "()J" } : Jvm.MethodName)) ∈ gtbl := mg (mm_6 (List.mem_of_getElem? (i := 105) rfl)) rfl
set_option maxRecDepth 20000 in
theorem m_6_106 : (Jvm.Cond.selects "DrawerGlovesModel" ({ cls := "DrawerGlovesModel", name := "upper", desc := "()J" } : Jvm.MethodName) ({ cls := "DrawerGlovesModel", name := "upper", desc := "()J" } : Jvm.MethodName)) ∈ gtbl := mg (mm_6 (List.mem_of_getElem? (i := 106) rfl)) rfl
set_option maxRecDepth 20000 in
theorem m_6_107 : (Jvm.Cond.code ({ cls := "DrawerGlovesModel", name := "upper", desc := "()J" } : Jvm.MethodName) prog_13_method_84_code (1 : Nat) (Option.some Jvm.ClassFile.FieldType.long)) ∈ gtbl := mg (mm_6 (List.mem_of_getElem? (i := 107) rfl)) rfl
set_option maxRecDepth 20000 in
theorem m_6_108 : (Jvm.Cond.methodLink "DrawerGlovesLaw" (170 : Nat) ({ cls := "DrawerGlovesModel", name := "lower", desc := "()J" } : Jvm.MethodName)) ∈ gtbl := mg (mm_6 (List.mem_of_getElem? (i := 108) rfl)) rfl
set_option maxRecDepth 20000 in
theorem m_6_109 : (Jvm.Cond.instanceMethod ({ cls := "DrawerGlovesModel", name := "lower", desc := "()J" } : Jvm.MethodName)) ∈ gtbl := mg (mm_6 (List.mem_of_getElem? (i := 109) rfl)) rfl
set_option maxRecDepth 20000 in
theorem m_6_110 : (Jvm.Cond.selects "DrawerGlovesModel" ({ cls := "DrawerGlovesModel", name := "lower", desc := "()J" } : Jvm.MethodName) ({ cls := "DrawerGlovesModel", name := "lower", desc := "()J" } : Jvm.MethodName)) ∈ gtbl := mg (mm_6 (List.mem_of_getElem? (i := 110) rfl)) rfl
set_option maxRecDepth 20000 in
theorem m_6_111 : (Jvm.Cond.code ({ cls := "DrawerGlovesModel", name := "lower", desc := "()J" } : Jvm.MethodName) prog_13_method_85_code (1 : Nat) (Option.some Jvm.ClassFile.FieldType.long)) ∈ gtbl := mg (mm_6 (List.mem_of_getElem? (i := 111) rfl)) rfl
set_option maxRecDepth 20000 in
theorem m_6_112 : (Jvm.Cond.methodLink "DrawerGlovesLaw" (174 : Nat) ({ cls := "DrawerGlovesModel", name := "count", desc := "(I)I" } : Jvm.MethodName)) ∈ gtbl := mg (mm_6 (List.mem_of_getElem? (i := 112) rfl)) rfl
set_option maxRecDepth 20000 in
theorem m_6_113 : (Jvm.Cond.instanceMethod ({ cls := "DrawerGlovesModel", name := "count", desc := "(I)I" } : Jvm.MethodName)) ∈ gtbl := mg (mm_6 (List.mem_of_getElem? (i := 113) rfl)) rfl
set_option maxRecDepth 20000 in
theorem m_6_114 : (Jvm.Cond.selects "DrawerGlovesModel" ({ cls := "DrawerGlovesModel", name := "count", desc := "(I)I" } : Jvm.MethodName) ({ cls := "DrawerGlovesModel", name := "count", desc := "(I)I" } : Jvm.MethodName)) ∈ gtbl := mg (mm_6 (List.mem_of_getElem? (i := 114) rfl)) rfl
set_option maxRecDepth 20000 in
theorem m_6_115 : (Jvm.Cond.code ({ cls := "DrawerGlovesModel", name := "count", desc := "(I)I" } : Jvm.MethodName) prog_13_method_86_code (4 : Nat) (Option.some Jvm.ClassFile.FieldType.int)) ∈ gtbl := mg (mm_6 (List.mem_of_getElem? (i := 115) rfl)) rfl
set_option maxRecDepth 20000 in
theorem m_6_116 : (Jvm.Cond.methodLink "DrawerGlovesLaw" (178 : Nat) ({ cls := "DrawerGlovesModel", name := "finding", desc := "()I" } : Jvm.MethodName)) ∈ gtbl := mg (mm_6 (List.mem_of_getElem? (i := 116) rfl)) rfl
set_option maxRecDepth 20000 in
theorem m_6_117 : (Jvm.Cond.instanceMethod ({ cls := "DrawerGlovesModel", name := "finding", desc := "()I" } : Jvm.MethodName)) ∈ gtbl := mg (mm_6 (List.mem_of_getElem? (i := 117) rfl)) rfl
set_option maxRecDepth 20000 in
theorem m_6_118 : (Jvm.Cond.selects "DrawerGlovesModel" ({ cls := "DrawerGlovesModel", name := "finding", desc := "()I" } : Jvm.MethodName) ({ cls := "DrawerGlovesModel", name := "finding", desc := "()I" } : Jvm.MethodName)) ∈ gtbl := mg (mm_6 (List.mem_of_getElem? (i := 118) rfl)) rfl
set_option maxRecDepth 20000 in
theorem m_6_119 : (Jvm.Cond.code ({ cls := "DrawerGlovesModel", name := "finding", desc := "()I" } : Jvm.MethodName) prog_13_method_87_code (1 : Nat) (Option.some Jvm.ClassFile.FieldType.int)) ∈ gtbl := mg (mm_6 (List.mem_of_getElem? (i := 119) rfl)) rfl
set_option maxRecDepth 20000 in
theorem m_6_120 : (Jvm.Cond.methodLink "DrawerGlovesLaw" (182 : Nat) ({ cls := "DrawerGlovesModel", name := "findings", desc := "(I)I" } : Jvm.MethodName)) ∈ gtbl := mg (mm_6 (List.mem_of_getElem? (i := 120) rfl)) rfl
set_option maxRecDepth 20000 in
theorem m_6_121 : (Jvm.Cond.instanceMethod ({ cls := "DrawerGlovesModel", name := "findings", desc := "(I)I" } : Jvm.MethodName)) ∈ gtbl := mg (mm_6 (List.mem_of_getElem? (i := 121) rfl)) rfl
set_option maxRecDepth 20000 in
theorem m_6_122 : (Jvm.Cond.selects "DrawerGlovesModel" ({ cls := "DrawerGlovesModel", name := "findings", desc := "(I)I" } : Jvm.MethodName) ({ cls := "DrawerGlovesModel", name := "findings", desc := "(I)I" } : Jvm.MethodName)) ∈ gtbl := mg (mm_6 (List.mem_of_getElem? (i := 122) rfl)) rfl
set_option maxRecDepth 20000 in
theorem m_6_123 : (Jvm.Cond.code ({ cls := "DrawerGlovesModel", name := "findings", desc := "(I)I" } : Jvm.MethodName) prog_13_method_88_code (2 : Nat) (Option.some Jvm.ClassFile.FieldType.int)) ∈ gtbl := mg (mm_6 (List.mem_of_getElem? (i := 123) rfl)) rfl
set_option maxRecDepth 20000 in
theorem m_6_124 : (Jvm.Cond.methodLink "DrawerGlovesLaw" (186 : Nat) ({ cls := "DrawerGlovesModel", name := "digest", desc := "()J" } : Jvm.MethodName)) ∈ gtbl := mg (mm_6 (List.mem_of_getElem? (i := 124) rfl)) rfl
set_option maxRecDepth 20000 in
theorem m_6_125 : (Jvm.Cond.instanceMethod ({ cls := "DrawerGlovesModel", name := "digest", desc := "()J" } : Jvm.MethodName)) ∈ gtbl := mg (mm_6 (List.mem_of_getElem? (i := 125) rfl)) rfl
set_option maxRecDepth 20000 in
theorem m_6_126 : (Jvm.Cond.selects "DrawerGlovesModel" ({ cls := "DrawerGlovesModel", name := "digest", desc := "()J" } : Jvm.MethodName) ({ cls := "DrawerGlovesModel", name := "digest", desc := "()J" } : Jvm.MethodName)) ∈ gtbl := mg (mm_6 (List.mem_of_getElem? (i := 126) rfl)) rfl
set_option maxRecDepth 20000 in
theorem m_6_127 : (Jvm.Cond.code ({ cls := "DrawerGlovesModel", name := "digest", desc := "()J" } : Jvm.MethodName) prog_13_method_89_code (5 : Nat) (Option.some Jvm.ClassFile.FieldType.long)) ∈ gtbl := mg (mm_6 (List.mem_of_getElem? (i := 127) rfl)) rfl
set_option maxRecDepth 20000 in
theorem m_6_128 : (Jvm.Cond.constantLong "DrawerGlovesModel" (280 : Nat) (17 : Int64)) ∈ gtbl := mg (mm_6 (List.mem_of_getElem? (i := 128) rfl)) rfl
set_option maxRecDepth 20000 in
theorem m_6_129 : (Jvm.Cond.constantLong "DrawerGlovesModel" (282 : Nat) (31 : Int64)) ∈ gtbl := mg (mm_6 (List.mem_of_getElem? (i := 129) rfl)) rfl
set_option maxRecDepth 20000 in
theorem m_6_130 : (Jvm.Cond.methodLink "DrawerGlovesModel" (284 : Nat) ({ cls := "DrawerGlovesModel", name := "count", desc := "(I)I" } : Jvm.MethodName)) ∈ gtbl := mg (mm_6 (List.mem_of_getElem? (i := 130) rfl)) rfl
theorem ms_0 : Cond.selects "DrawerGloves" (⟨"DrawerGloves", "finds", "(I)I"⟩ : MethodName) ⟨"DrawerGloves", "finds", "(I)I"⟩ ∈ gtbl := mg (mp_1 (q := (⟨"DrawerGloves", "finds", "(I)I"⟩, _)) (List.mem_of_getElem? (i := 0) rfl)) rfl
theorem ms_1 : Cond.selects "DrawerGloves" (⟨"DrawerGloves", "refusedPlace", "(II)I"⟩ : MethodName) ⟨"DrawerGloves", "refusedPlace", "(II)I"⟩ ∈ gtbl := mg (mp_1 (q := (⟨"DrawerGloves", "refusedPlace", "(II)I"⟩, _)) (List.mem_of_getElem? (i := 1) rfl)) rfl
theorem ms_2 : Cond.selects "DrawerGloves" (⟨"DrawerGloves", "refusedRow", "(I)I"⟩ : MethodName) ⟨"DrawerGloves", "refusedRow", "(I)I"⟩ ∈ gtbl := mg (mp_1 (q := (⟨"DrawerGloves", "refusedRow", "(I)I"⟩, _)) (List.mem_of_getElem? (i := 2) rfl)) rfl
theorem ms_3 : Cond.selects "DrawerGloves" (⟨"DrawerGloves", "tells", "(I)I"⟩ : MethodName) ⟨"DrawerGloves", "tells", "(I)I"⟩ ∈ gtbl := mg (mp_1 (q := (⟨"DrawerGloves", "tells", "(I)I"⟩, _)) (List.mem_of_getElem? (i := 3) rfl)) rfl
theorem ms_4 : Cond.selects "DrawerGloves" (⟨"DrawerGloves", "refusedText", "(I)I"⟩ : MethodName) ⟨"DrawerGloves", "refusedText", "(I)I"⟩ ∈ gtbl := mg (mp_1 (q := (⟨"DrawerGloves", "refusedText", "(I)I"⟩, _)) (List.mem_of_getElem? (i := 4) rfl)) rfl
theorem ms_5 : Cond.selects "DrawerGloves$Reading" (⟨"DrawerGloves$Reading", "faultOfGlove", "(LDrawerGloves$Rows;II)I"⟩ : MethodName) ⟨"DrawerGloves$Reading", "faultOfGlove", "(LDrawerGloves$Rows;II)I"⟩ ∈ gtbl := mg (mp_1 (q := (⟨"DrawerGloves$Reading", "faultOfGlove", "(LDrawerGloves$Rows;II)I"⟩, _)) (List.mem_of_getElem? (i := 5) rfl)) rfl
theorem ms_6 : Cond.selects "DrawerGloves$Drawer" (⟨"DrawerGloves$Drawer", "carryOut", "(III)V"⟩ : MethodName) ⟨"DrawerGloves$Drawer", "carryOut", "(III)V"⟩ ∈ gtbl := mg (mp_1 (q := (⟨"DrawerGloves$Drawer", "carryOut", "(III)V"⟩, _)) (List.mem_of_getElem? (i := 6) rfl)) rfl
theorem ms_7 : Cond.selects "DrawerGloves$Glove" (⟨"DrawerGloves$Glove", "goesOn", "(I)Z"⟩ : MethodName) ⟨"DrawerGloves$Glove", "goesOn", "(I)Z"⟩ ∈ gtbl := mg (mp_1 (q := (⟨"DrawerGloves$Glove", "goesOn", "(I)Z"⟩, _)) (List.mem_of_getElem? (i := 7) rfl)) rfl
theorem ms_8 : Cond.selects "DrawerGloves$Makings" (⟨"DrawerGloves$Makings", "weighWith", "(II)V"⟩ : MethodName) ⟨"DrawerGloves$Makings", "weighWith", "(II)V"⟩ ∈ gtbl := mg (mp_1 (q := (⟨"DrawerGloves$Makings", "weighWith", "(II)V"⟩, _)) (List.mem_of_getElem? (i := 8) rfl)) rfl
theorem ms_9 : Cond.selects "DrawerGloves$Makings" (⟨"DrawerGloves$Makings", "firstMate", "(LDrawerGloves$Drawer;II)I"⟩ : MethodName) ⟨"DrawerGloves$Makings", "firstMate", "(LDrawerGloves$Drawer;II)I"⟩ ∈ gtbl := mg (mp_1 (q := (⟨"DrawerGloves$Makings", "firstMate", "(LDrawerGloves$Drawer;II)I"⟩, _)) (List.mem_of_getElem? (i := 9) rfl)) rfl
theorem ms_10 : Cond.selects "DrawerGloves" (⟨"DrawerGloves", "greatestChange", "(I)I"⟩ : MethodName) ⟨"DrawerGloves", "greatestChange", "(I)I"⟩ ∈ gtbl := mg (mp_1 (q := (⟨"DrawerGloves", "greatestChange", "(I)I"⟩, _)) (List.mem_of_getElem? (i := 10) rfl)) rfl
theorem ms_11 : Cond.selects "DrawerGloves$Calendar" (⟨"DrawerGloves$Calendar", "gather", "(LDrawerGloves$Drawer;)V"⟩ : MethodName) ⟨"DrawerGloves$Calendar", "gather", "(LDrawerGloves$Drawer;)V"⟩ ∈ gtbl := mg (mp_1 (q := (⟨"DrawerGloves$Calendar", "gather", "(LDrawerGloves$Drawer;)V"⟩, _)) (List.mem_of_getElem? (i := 11) rfl)) rfl
theorem ms_12 : Cond.selects "DrawerGloves$Makings" (⟨"DrawerGloves$Makings", "isSafer", "(LDrawerGloves$Drawer;II)Z"⟩ : MethodName) ⟨"DrawerGloves$Makings", "isSafer", "(LDrawerGloves$Drawer;II)Z"⟩ ∈ gtbl := mg (mp_1 (q := (⟨"DrawerGloves$Makings", "isSafer", "(LDrawerGloves$Drawer;II)Z"⟩, _)) (List.mem_of_getElem? (i := 12) rfl)) rfl
theorem ms_13 : Cond.selects "DrawerGloves" (⟨"DrawerGloves", "refusedGuess", "(II)I"⟩ : MethodName) ⟨"DrawerGloves", "refusedGuess", "(II)I"⟩ ∈ gtbl := mg (mp_1 (q := (⟨"DrawerGloves", "refusedGuess", "(II)I"⟩, _)) (List.mem_of_getElem? (i := 13) rfl)) rfl
theorem ms_14 : Cond.selects "DrawerGloves$Guess" (⟨"DrawerGloves$Guess", "agrees", "(LDrawerGloves$Drawer;LDrawerGloves$Rows;I)Z"⟩ : MethodName) ⟨"DrawerGloves$Guess", "agrees", "(LDrawerGloves$Drawer;LDrawerGloves$Rows;I)Z"⟩ ∈ gtbl := mg (mp_1 (q := (⟨"DrawerGloves$Guess", "agrees", "(LDrawerGloves$Drawer;LDrawerGloves$Rows;I)Z"⟩, _)) (List.mem_of_getElem? (i := 14) rfl)) rfl
theorem ms_15 : Cond.selects "DrawerGloves$Guess" (⟨"DrawerGloves$Guess", "howManyLike", "(II)I"⟩ : MethodName) ⟨"DrawerGloves$Guess", "howManyLike", "(II)I"⟩ ∈ gtbl := mg (mp_1 (q := (⟨"DrawerGloves$Guess", "howManyLike", "(II)I"⟩, _)) (List.mem_of_getElem? (i := 15) rfl)) rfl
theorem ms_16 : Cond.selects "DrawerGloves$Chances" (⟨"DrawerGloves$Chances", "waysTo", "(LDrawerGloves$Drawer;II)J"⟩ : MethodName) ⟨"DrawerGloves$Chances", "waysTo", "(LDrawerGloves$Drawer;II)J"⟩ ∈ gtbl := mg (mp_2 (q := (⟨"DrawerGloves$Chances", "waysTo", "(LDrawerGloves$Drawer;II)J"⟩, _)) (List.mem_of_getElem? (i := 0) rfl)) rfl
theorem ms_17 : Cond.selects "DrawerGloves$Drawer" (⟨"DrawerGloves$Drawer", "wearFirstPair", "()V"⟩ : MethodName) ⟨"DrawerGloves$Drawer", "wearFirstPair", "()V"⟩ ∈ gtbl := mg (mp_2 (q := (⟨"DrawerGloves$Drawer", "wearFirstPair", "()V"⟩, _)) (List.mem_of_getElem? (i := 1) rfl)) rfl
theorem ms_18 : Cond.selects "DrawerGloves" (⟨"DrawerGloves", "howManyKept", "()I"⟩ : MethodName) ⟨"DrawerGloves", "howManyKept", "()I"⟩ ∈ gtbl := mg (mp_2 (q := (⟨"DrawerGloves", "howManyKept", "()I"⟩, _)) (List.mem_of_getElem? (i := 2) rfl)) rfl
theorem ms_19 : Cond.selects "DrawerGlovesModel" (⟨"DrawerGlovesModel", "refuse", "(I)I"⟩ : MethodName) ⟨"DrawerGlovesModel", "refuse", "(I)I"⟩ ∈ gtbl := mg (mp_2 (q := (⟨"DrawerGlovesModel", "refuse", "(I)I"⟩, _)) (List.mem_of_getElem? (i := 3) rfl)) rfl
theorem ms_20 : Cond.selects "DrawerGlovesModel" (⟨"DrawerGlovesModel", "clearRow", "(II)V"⟩ : MethodName) ⟨"DrawerGlovesModel", "clearRow", "(II)V"⟩ ∈ gtbl := mg (mp_2 (q := (⟨"DrawerGlovesModel", "clearRow", "(II)V"⟩, _)) (List.mem_of_getElem? (i := 4) rfl)) rfl
theorem ms_21 : Cond.selects "DrawerGlovesModel" (⟨"DrawerGlovesModel", "tellsAsked", "(I)I"⟩ : MethodName) ⟨"DrawerGlovesModel", "tellsAsked", "(I)I"⟩ ∈ gtbl := mg (mp_2 (q := (⟨"DrawerGlovesModel", "tellsAsked", "(I)I"⟩, _)) (List.mem_of_getElem? (i := 5) rfl)) rfl
theorem ms_22 : Cond.selects "DrawerGlovesModel" (⟨"DrawerGlovesModel", "read", "(I)V"⟩ : MethodName) ⟨"DrawerGlovesModel", "read", "(I)V"⟩ ∈ gtbl := mg (mp_2 (q := (⟨"DrawerGlovesModel", "read", "(I)V"⟩, _)) (List.mem_of_getElem? (i := 6) rfl)) rfl
theorem ms_23 : Cond.selects "DrawerGlovesModel" (⟨"DrawerGlovesModel", "skip", "()V"⟩ : MethodName) ⟨"DrawerGlovesModel", "skip", "()V"⟩ ∈ gtbl := mg (mp_2 (q := (⟨"DrawerGlovesModel", "skip", "()V"⟩, _)) (List.mem_of_getElem? (i := 7) rfl)) rfl
theorem ms_24 : Cond.selects "DrawerGlovesModel" (⟨"DrawerGlovesModel", "here", "()I"⟩ : MethodName) ⟨"DrawerGlovesModel", "here", "()I"⟩ ∈ gtbl := mg (mp_2 (q := (⟨"DrawerGlovesModel", "here", "()I"⟩, _)) (List.mem_of_getElem? (i := 8) rfl)) rfl
theorem ms_25 : Cond.selects "DrawerGlovesModel" (⟨"DrawerGlovesModel", "figure", "(II)I"⟩ : MethodName) ⟨"DrawerGlovesModel", "figure", "(II)I"⟩ ∈ gtbl := mg (mp_2 (q := (⟨"DrawerGlovesModel", "figure", "(II)I"⟩, _)) (List.mem_of_getElem? (i := 9) rfl)) rfl
theorem ms_26 : Cond.selects "DrawerGlovesModel" (⟨"DrawerGlovesModel", "readGlove", "()V"⟩ : MethodName) ⟨"DrawerGlovesModel", "readGlove", "()V"⟩ ∈ gtbl := mg (mp_2 (q := (⟨"DrawerGlovesModel", "readGlove", "()V"⟩, _)) (List.mem_of_getElem? (i := 10) rfl)) rfl
theorem ms_27 : Cond.selects "DrawerGlovesModel" (⟨"DrawerGlovesModel", "goThrough", "()V"⟩ : MethodName) ⟨"DrawerGlovesModel", "goThrough", "()V"⟩ ∈ gtbl := mg (mp_2 (q := (⟨"DrawerGlovesModel", "goThrough", "()V"⟩, _)) (List.mem_of_getElem? (i := 11) rfl)) rfl
theorem ms_28 : Cond.selects "DrawerGlovesModel" (⟨"DrawerGlovesModel", "happen", "(III)V"⟩ : MethodName) ⟨"DrawerGlovesModel", "happen", "(III)V"⟩ ∈ gtbl := mg (mp_2 (q := (⟨"DrawerGlovesModel", "happen", "(III)V"⟩, _)) (List.mem_of_getElem? (i := 12) rfl)) rfl
theorem ms_29 : Cond.selects "DrawerGlovesModel" (⟨"DrawerGlovesModel", "isGlove", "(I)Z"⟩ : MethodName) ⟨"DrawerGlovesModel", "isGlove", "(I)Z"⟩ ∈ gtbl := mg (mp_2 (q := (⟨"DrawerGlovesModel", "isGlove", "(I)Z"⟩, _)) (List.mem_of_getElem? (i := 13) rfl)) rfl
theorem ms_30 : Cond.selects "DrawerGlovesModel" (⟨"DrawerGlovesModel", "ofGlove", "(II)I"⟩ : MethodName) ⟨"DrawerGlovesModel", "ofGlove", "(II)I"⟩ ∈ gtbl := mg (mp_2 (q := (⟨"DrawerGlovesModel", "ofGlove", "(II)I"⟩, _)) (List.mem_of_getElem? (i := 14) rfl)) rfl
theorem ms_31 : Cond.selects "DrawerGlovesModel" (⟨"DrawerGlovesModel", "warmthAs", "(II)I"⟩ : MethodName) ⟨"DrawerGlovesModel", "warmthAs", "(II)I"⟩ ∈ gtbl := mg (mp_2 (q := (⟨"DrawerGlovesModel", "warmthAs", "(II)I"⟩, _)) (List.mem_of_getElem? (i := 15) rfl)) rfl
theorem ms_32 : Cond.selects "DrawerGlovesModel" (⟨"DrawerGlovesModel", "pairOf", "(II)I"⟩ : MethodName) ⟨"DrawerGlovesModel", "pairOf", "(II)I"⟩ ∈ gtbl := mg (mp_3 (q := (⟨"DrawerGlovesModel", "pairOf", "(II)I"⟩, _)) (List.mem_of_getElem? (i := 0) rfl)) rfl
theorem ms_33 : Cond.selects "DrawerGlovesModel" (⟨"DrawerGlovesModel", "pairAs", "(IIIII)I"⟩ : MethodName) ⟨"DrawerGlovesModel", "pairAs", "(IIIII)I"⟩ ∈ gtbl := mg (mp_3 (q := (⟨"DrawerGlovesModel", "pairAs", "(IIIII)I"⟩, _)) (List.mem_of_getElem? (i := 1) rfl)) rfl
theorem ms_34 : Cond.selects "DrawerGlovesModel" (⟨"DrawerGlovesModel", "areTwo", "(II)Z"⟩ : MethodName) ⟨"DrawerGlovesModel", "areTwo", "(II)Z"⟩ ∈ gtbl := mg (mp_3 (q := (⟨"DrawerGlovesModel", "areTwo", "(II)Z"⟩, _)) (List.mem_of_getElem? (i := 2) rfl)) rfl
theorem ms_35 : Cond.selects "DrawerGlovesModel" (⟨"DrawerGlovesModel", "does", "(III)V"⟩ : MethodName) ⟨"DrawerGlovesModel", "does", "(III)V"⟩ ∈ gtbl := mg (mp_3 (q := (⟨"DrawerGlovesModel", "does", "(III)V"⟩, _)) (List.mem_of_getElem? (i := 3) rfl)) rfl
theorem ms_36 : Cond.selects "DrawerGlovesModel" (⟨"DrawerGlovesModel", "inDrawer", "()I"⟩ : MethodName) ⟨"DrawerGlovesModel", "inDrawer", "()I"⟩ ∈ gtbl := mg (mp_3 (q := (⟨"DrawerGlovesModel", "inDrawer", "()I"⟩, _)) (List.mem_of_getElem? (i := 4) rfl)) rfl
theorem ms_37 : Cond.selects "DrawerGlovesModel" (⟨"DrawerGlovesModel", "setIn", "(I)I"⟩ : MethodName) ⟨"DrawerGlovesModel", "setIn", "(I)I"⟩ ∈ gtbl := mg (mp_3 (q := (⟨"DrawerGlovesModel", "setIn", "(I)I"⟩, _)) (List.mem_of_getElem? (i := 5) rfl)) rfl
theorem ms_38 : Cond.selects "DrawerGlovesModel" (⟨"DrawerGlovesModel", "all", "()I"⟩ : MethodName) ⟨"DrawerGlovesModel", "all", "()I"⟩ ∈ gtbl := mg (mp_3 (q := (⟨"DrawerGlovesModel", "all", "()I"⟩, _)) (List.mem_of_getElem? (i := 6) rfl)) rfl
theorem ms_39 : Cond.selects "DrawerGlovesModel" (⟨"DrawerGlovesModel", "measure", "()V"⟩ : MethodName) ⟨"DrawerGlovesModel", "measure", "()V"⟩ ∈ gtbl := mg (mp_3 (q := (⟨"DrawerGlovesModel", "measure", "()V"⟩, _)) (List.mem_of_getElem? (i := 7) rfl)) rfl
theorem ms_40 : Cond.selects "DrawerGlovesModel" (⟨"DrawerGlovesModel", "listTwos", "()V"⟩ : MethodName) ⟨"DrawerGlovesModel", "listTwos", "()V"⟩ ∈ gtbl := mg (mp_3 (q := (⟨"DrawerGlovesModel", "listTwos", "()V"⟩, _)) (List.mem_of_getElem? (i := 8) rfl)) rfl
theorem ms_41 : Cond.selects "DrawerGlovesModel" (⟨"DrawerGlovesModel", "useOf", "(I)I"⟩ : MethodName) ⟨"DrawerGlovesModel", "useOf", "(I)I"⟩ ∈ gtbl := mg (mp_3 (q := (⟨"DrawerGlovesModel", "useOf", "(I)I"⟩, _)) (List.mem_of_getElem? (i := 9) rfl)) rfl
theorem ms_42 : Cond.selects "DrawerGlovesModel" (⟨"DrawerGlovesModel", "takeOff", "(I)V"⟩ : MethodName) ⟨"DrawerGlovesModel", "takeOff", "(I)V"⟩ ∈ gtbl := mg (mp_3 (q := (⟨"DrawerGlovesModel", "takeOff", "(I)V"⟩, _)) (List.mem_of_getElem? (i := 10) rfl)) rfl
theorem ms_43 : Cond.selects "DrawerGlovesModel" (⟨"DrawerGlovesModel", "worstOf", "(I)I"⟩ : MethodName) ⟨"DrawerGlovesModel", "worstOf", "(I)I"⟩ ∈ gtbl := mg (mp_3 (q := (⟨"DrawerGlovesModel", "worstOf", "(I)I"⟩, _)) (List.mem_of_getElem? (i := 11) rfl)) rfl
theorem ms_44 : Cond.selects "DrawerGlovesModel" (⟨"DrawerGlovesModel", "judge", "(II)I"⟩ : MethodName) ⟨"DrawerGlovesModel", "judge", "(II)I"⟩ ∈ gtbl := mg (mp_3 (q := (⟨"DrawerGlovesModel", "judge", "(II)I"⟩, _)) (List.mem_of_getElem? (i := 12) rfl)) rfl
theorem ms_45 : Cond.selects "DrawerGlovesModel" (⟨"DrawerGlovesModel", "isSo", "(IIIII)Z"⟩ : MethodName) ⟨"DrawerGlovesModel", "isSo", "(IIIII)Z"⟩ ∈ gtbl := mg (mp_3 (q := (⟨"DrawerGlovesModel", "isSo", "(IIIII)Z"⟩, _)) (List.mem_of_getElem? (i := 13) rfl)) rfl
theorem ms_46 : Cond.selects "DrawerGlovesModel" (⟨"DrawerGlovesModel", "kindsBy", "(II)I"⟩ : MethodName) ⟨"DrawerGlovesModel", "kindsBy", "(II)I"⟩ ∈ gtbl := mg (mp_3 (q := (⟨"DrawerGlovesModel", "kindsBy", "(II)I"⟩, _)) (List.mem_of_getElem? (i := 14) rfl)) rfl
theorem ms_47 : Cond.selects "DrawerGlovesModel" (⟨"DrawerGlovesModel", "partBy", "(III)I"⟩ : MethodName) ⟨"DrawerGlovesModel", "partBy", "(III)I"⟩ ∈ gtbl := mg (mp_3 (q := (⟨"DrawerGlovesModel", "partBy", "(III)I"⟩, _)) (List.mem_of_getElem? (i := 15) rfl)) rfl
theorem ms_48 : Cond.selects "DrawerGlovesModel" (⟨"DrawerGlovesModel", "hasOf", "(II)I"⟩ : MethodName) ⟨"DrawerGlovesModel", "hasOf", "(II)I"⟩ ∈ gtbl := mg (mp_4 (q := (⟨"DrawerGlovesModel", "hasOf", "(II)I"⟩, _)) (List.mem_of_getElem? (i := 0) rfl)) rfl
theorem ms_49 : Cond.selects "DrawerGlovesModel" (⟨"DrawerGlovesModel", "bestTurn", "(III)I"⟩ : MethodName) ⟨"DrawerGlovesModel", "bestTurn", "(III)I"⟩ ∈ gtbl := mg (mp_4 (q := (⟨"DrawerGlovesModel", "bestTurn", "(III)I"⟩, _)) (List.mem_of_getElem? (i := 1) rfl)) rfl
theorem ms_50 : Cond.selects "DrawerGlovesModel" (⟨"DrawerGlovesModel", "waysOf", "(IIII)J"⟩ : MethodName) ⟨"DrawerGlovesModel", "waysOf", "(IIII)J"⟩ ∈ gtbl := mg (mp_4 (q := (⟨"DrawerGlovesModel", "waysOf", "(IIII)J"⟩, _)) (List.mem_of_getElem? (i := 2) rfl)) rfl
theorem ms_51 : Cond.selects "DrawerGlovesModel" (⟨"DrawerGlovesModel", "lossOf", "(III)I"⟩ : MethodName) ⟨"DrawerGlovesModel", "lossOf", "(III)I"⟩ ∈ gtbl := mg (mp_4 (q := (⟨"DrawerGlovesModel", "lossOf", "(III)I"⟩, _)) (List.mem_of_getElem? (i := 3) rfl)) rfl
theorem ms_52 : Cond.selects "DrawerGlovesModel" (⟨"DrawerGlovesModel", "allWays", "(I)J"⟩ : MethodName) ⟨"DrawerGlovesModel", "allWays", "(I)J"⟩ ∈ gtbl := mg (mp_4 (q := (⟨"DrawerGlovesModel", "allWays", "(I)J"⟩, _)) (List.mem_of_getElem? (i := 4) rfl)) rfl
theorem ms_53 : Cond.selects "DrawerGlovesModel" (⟨"DrawerGlovesModel", "tellPart", "(JJ)V"⟩ : MethodName) ⟨"DrawerGlovesModel", "tellPart", "(JJ)V"⟩ ∈ gtbl := mg (mp_4 (q := (⟨"DrawerGlovesModel", "tellPart", "(JJ)V"⟩, _)) (List.mem_of_getElem? (i := 5) rfl)) rfl
end
section
/-! the objects behind both constructors: logical numbers, kinds (0 .. 11 an object of vwCl, 20 int[], 21 byte[], 22 Deeds[], 23 Glove[], 24 int[][]), lengths, references -/
abbrev Mem : Type := (Nat → Nat → Int32) × (Nat → Nat → Int64)
abbrev Glob : Type := Launch × va_G × (Nat → ClassId) × (Nat → Nat)
abbrev gl (G : Glob) : Launch := G.1
abbrev gD (G : Glob) : va_G := G.2.1
def gc (G : Glob) : Nat → ClassId := G.2.2.1
def ad (G : Glob) : Nat → Nat := G.2.2.2
def nT : Nat := 95
def kdL : List Nat := [10, 9, 24, 20, 9, 24, 20, 7, 20, 20, 20, 20, 3, 23, 2, 20, 22, 2, 2, 2, 20, 20, 20, 6, 20, 20, 20, 20, 0, 3, 23, 2, 20, 20, 20, 20, 5, 4, 20, 8, 20, 20, 1, 20, 20, 20, 20, 20, 20, 20, 20, 20, 20, 20, 20, 4, 4, 4, 4, 4, 4, 4, 4, 4, 4, 4, 4, 4, 4, 4, 4, 11, 20, 20, 20, 21, 20, 20, 20, 20, 20, 20, 20, 20, 20, 20, 20, 20, 20, 20, 20, 20, 20, 20, 20]
def kd (a : Nat) : Nat := kdL.getD a 99
def lnL : List Nat := [0, 0, 6, 6, 0, 4, 4, 0, 8, 8, 8, 8, 0, 8, 0, 40, 3, 0, 0, 0, 40, 40, 40, 0, 64, 256, 256, 256, 0, 0, 8, 0, 40, 64, 3, 3, 0, 0, 6, 0, 6561, 256, 0, 8, 6, 40, 40, 40, 40, 40, 40, 60, 60, 60, 60, 0, 0, 0, 0, 0, 0, 0, 0, 0, 0, 0, 0, 0, 0, 0, 0, 0, 6, 240, 6, 240, 4, 40, 8, 8, 8, 8, 8, 8, 8, 8, 8, 8, 120, 3, 360, 256, 256, 28, 6561]
def ln (a : Nat) : Nat := lnL.getD a 0
def fkL : List (List Nat) := [[2, 2, 2, 2, 0, 0, 0], [2, 1, 1], [2, 0], [2, 2, 0, 0], [0, 0, 0, 0, 0, 0], [2, 2], [2, 2, 2, 2], [2, 2, 2, 2, 0, 0], [2, 2], [2, 2, 0, 0], [2, 2, 2, 2, 2, 2, 2, 2, 2, 2, 2, 0, 0], [0, 1, 1, 0, 2, 2, 2, 2, 2, 2, 0, 0, 2, 2, 2, 2, 0, 0, 0, 0, 0, 2, 2, 2, 2, 2, 2, 0, 2, 2, 2, 2, 2, 2, 0, 2]]
def fks (c : Nat) : List Nat := fkL.getD c []
def rfL : List (List Nat) := [[1, 4, 7, 12, 16, 23, 28, 36, 39, 42, 44], [2, 3], [], [], [5, 6], [], [], [8, 9, 10, 11], [], [], [], [], [13, 14], [], [15], [], [], [20], [21], [22], [], [], [], [24, 25, 26, 27], [], [], [], [], [29, 33, 34, 35], [30, 31], [], [32], [], [], [], [], [37, 38], [], [], [40, 41], [], [], [43], [], [], [], [], [], [], [], [], [], [], [], [], [], [], [], [], [], [], [], [], [], [], [], [], [], [], [], [], [0, 0, 0, 0, 72, 73, 74, 75, 76, 77, 0, 0, 78, 79, 80, 81, 0, 0, 0, 0, 0, 82, 83, 84, 85, 86, 87, 0, 88, 89, 90, 91, 92, 93, 0, 94], [], [], [], [], [], [], [], [], [], [], [], [], [], [], [], [], [], [], [], [], [], [], []]
def rfB : List Nat := [0, 0, 45, 0, 0, 51, 0, 0, 0, 0, 0, 0, 0, 55, 0, 0, 17, 0, 0, 0, 0, 0, 0, 0, 0, 0, 0, 0, 0, 0, 63, 0, 0, 0, 0, 0, 0, 0, 0, 0, 0, 0, 0, 0, 0, 0, 0, 0, 0, 0, 0, 0, 0, 0, 0, 0, 0, 0, 0, 0, 0, 0, 0, 0, 0, 0, 0, 0, 0, 0, 0, 0, 0, 0, 0, 0, 0, 0, 0, 0, 0, 0, 0, 0, 0, 0, 0, 0, 0, 0, 0, 0, 0, 0, 0]
/-- what a place refers to: an array of references by its first one (they lie in a row), an object by its list -/
def rf (a k : Nat) : Nat := if 22 ≤ kd a then rfB.getD a 0 + k else (rfL.getD a []).getD k 0
end
section
/-! the world of all the objects out of a memory; a frame's judgement over logical numbers -/
def upI (M : Mem) (a k : Nat) (v : Int32) : Mem := (fun b j => if b = a ∧ j = k then v else M.1 b j, M.2)
def upL (M : Mem) (a k : Nat) (v : Int64) : Mem := (M.1, fun b j => if b = a ∧ j = k then v else M.2 b j)
def upC (M : Mem) (a b sp dp n : Nat) : Mem := (fun q j => if q = b then va_cpy (M.1 a) (M.1 b) sp dp n j else M.1 q j, M.2)
theorem upI_at (M : Mem) (a k : Nat) (v : Int32) (b j : Nat) : (upI M a k v).1 b j = if b = a ∧ j = k then v else M.1 b j := rfl
theorem upL_at (M : Mem) (a k : Nat) (v : Int64) (b j : Nat) : (upL M a k v).2 b j = if b = a ∧ j = k then v else M.2 b j := rfl
theorem upI_2 (M : Mem) (a k : Nat) (v : Int32) : (upI M a k v).2 = M.2 := rfl
theorem upL_1 (M : Mem) (a k : Nat) (v : Int64) : (upL M a k v).1 = M.1 := rfl
def fv (G : Glob) (M : Mem) (a k t : Nat) : Value := match t with
  | 0 => .int (M.1 a k)
  | 1 => .long (M.2 a k)
  | _ => .ref (ad G (rf a k))
def ent (G : Glob) (M : Mem) (a : Nat) : va_E :=
  if kd a < 12 then .inr (kd a, (fks (kd a)).mapIdx (fun k t => fv G M a k t))
  else if kd a < 22 then .inl (gc G (kd a), ln a, .inl (M.1 a))
  else .inl (gc G (kd a), ln a, .inr (.inr (.inr (.inr (fun i => some (ad G (rf a i)))))))
def wso (G : Glob) (M : Mem) : va_W := (List.range nT).map fun a => (ad G a, ent G M a)
def tso (G : Glob) : List (ClassId × FieldType) := [(gc G 20, .int), (gc G 21, .byte), (gc G 22, .object "DrawerGloves$Deeds"), (gc G 23, .object "DrawerGloves$Glove"), (gc G 24, .array .int)]
def AG (G : Glob) : Nat → Prop := fun q => ∃ a, a < nT ∧ q = ad G a
def GI (G : Glob) : Prop := ∀ i j, i < nT → j < nT → ad G i = ad G j → i = j
theorem wso_len (G : Glob) (M : Mem) : (wso G M).length = nT := by simp [wso]
theorem wso_at (G : Glob) (M : Mem) {a : Nat} (h : a < nT) : (wso G M)[a]? = some (ad G a, ent G M a) := by
  unfold wso
  rw [List.getElem?_map, List.getElem?_range h]
  rfl
theorem wso_set {G : Glob} {M M' : Mem} {a : Nat} {e : va_E} (h : a < nT) (he : ent G M' a = e) (hne : ∀ b, b ≠ a → ent G M' b = ent G M b) : (wso G M).set a (ad G a, e) = wso G M' := by
  apply List.ext_getElem?
  intro j
  by_cases hj : j < nT
  · by_cases hja : j = a
    · subst hja
      rw [List.getElem?_set_self (by rw [wso_len]; exact h), wso_at G M' h, he]
    · rw [List.getElem?_set_ne (Ne.symm hja), wso_at G M hj, wso_at G M' hj, hne j hja]
  · rw [List.getElem?_eq_none (by rw [List.length_set, wso_len]; omega), List.getElem?_eq_none (by rw [wso_len]; omega)]
theorem wso_D {G : Glob} (hi : GI G) (M : Mem) : va_D (AG G) (wso G M) := by
  have key : ∀ (k : Nat) (q : Nat × va_E), (wso G M)[k]? = some q → k < nT ∧ q.1 = ad G k := by
    intro k q hk
    have h := (List.getElem?_eq_some_iff.mp hk).1
    rw [wso_len] at h
    rw [wso_at G M h] at hk
    cases hk
    exact ⟨h, rfl⟩
  refine ⟨fun i j p q hi' hj' hpq => ?_, fun k q hk => ?_⟩
  · obtain ⟨a1, a2⟩ := key i p hi'
    obtain ⟨b1, b2⟩ := key j q hj'
    exact hi i j a1 b1 (by rw [← a2, ← b2]; exact hpq)
  · obtain ⟨a1, a2⟩ := key k q hk
    exact ⟨k, a1, a2⟩
theorem kd_lt {a c : Nat} (h : kd a = c) (hc : c < 99) : a < nT := by
  rcases Nat.lt_or_ge a nT with q | q
  · exact q
  · exfalso
    have h2 : kd a = 99 := by
      unfold kd
      rw [List.getD_eq_getElem?_getD, List.getElem?_eq_none (show kdL.length ≤ a from q)]
      rfl
    omega
theorem ent_obj (G : Glob) (M : Mem) {a c : Nat} (h : kd a = c) (hc : c < 12) : ent G M a = .inr (c, (fks c).mapIdx (fun k t => fv G M a k t)) := by
  subst h
  unfold ent
  rw [if_pos hc]
theorem ent_num (G : Glob) (M : Mem) {a c : Nat} (h : kd a = c) (hc : 12 ≤ c) (hc2 : c < 22) : ent G M a = .inl (gc G c, ln a, .inl (M.1 a)) := by
  subst h
  unfold ent
  rw [if_neg (by omega), if_pos hc2]
theorem ent_ref (G : Glob) (M : Mem) {a c : Nat} (h : kd a = c) (hc : 22 ≤ c) : ent G M a = .inl (gc G c, ln a, .inr (.inr (.inr (.inr (fun i => some (ad G (rf a i))))))) := by
  subst h
  unfold ent
  rw [if_neg (by omega), if_neg (by omega)]
theorem ent_upI_ne (G : Glob) (M : Mem) (a k : Nat) (v : Int32) {b : Nat} (h : b ≠ a) : ent G (upI M a k v) b = ent G M b := by
  have e : (upI M a k v).1 b = M.1 b := by funext j; simp [upI, h]
  have e2 : ∀ k t, fv G (upI M a k v) b k t = fv G M b k t := by
    intro k t
    unfold fv
    split <;> simp [upI, h]
  unfold ent
  rw [e]
  have e3 : (fun k' t => fv G (upI M a k v) b k' t) = (fun k' t => fv G M b k' t) := by
    funext k' t
    unfold fv
    split <;> simp [upI, h]
  rw [e3]
theorem ent_upL_ne (G : Glob) (M : Mem) (a k : Nat) (v : Int64) {b : Nat} (h : b ≠ a) : ent G (upL M a k v) b = ent G M b := by
  have e3 : (fun k' t => fv G (upL M a k v) b k' t) = (fun k' t => fv G M b k' t) := by
    funext k' t
    unfold fv
    split <;> simp [upL, h]
  unfold ent
  rw [e3]
  rfl
theorem ent_upC_ne (G : Glob) (M : Mem) (a0 a sp dp n : Nat) {b : Nat} (h : b ≠ a) : ent G (upC M a0 a sp dp n) b = ent G M b := by
  have e : (upC M a0 a sp dp n).1 b = M.1 b := by funext j; simp [upC, h]
  have e3 : (fun k' t => fv G (upC M a0 a sp dp n) b k' t) = (fun k' t => fv G M b k' t) := by
    funext k' t
    unfold fv
    split <;> simp [upC, h]
  unfold ent
  rw [e, e3]
/-! locals: a list, none where nothing is known -/
abbrev LL : Type := List (Option Value)
def LH (la : Array Slot) (n : Nat) (ls : LL) : Prop := la.size = n ∧ lv_wf la ∧ ∀ (i : Nat) (v : Value), ls[i]? = some (some v) → la[i]? = some (.val v)
def lass (ls : LL) : List (Nat × Value) := (List.range ls.length).filterMap fun i => match ls[i]? with
  | some (some v) => some (i, v)
  | _ => none
theorem lass_mem {ls : LL} {q : Nat × Value} : q ∈ lass ls ↔ ls[q.1]? = some (some q.2) := by
  obtain ⟨i, v⟩ := q
  unfold lass
  rw [List.mem_filterMap]
  constructor
  · rintro ⟨j, -, hj⟩
    split at hj
    · rename_i w hw
      cases hj
      exact hw
    · cases hj
  · intro h
    refine ⟨i, List.mem_range.mpr (List.getElem?_eq_some_iff.mp h).1, ?_⟩
    simp only at h
    rw [h]
theorem LH.has {la : Array Slot} {n : Nat} {ls : LL} (h : LH la n ls) : lv_has la n (lass ls) := ⟨h.1, h.2.1, fun q hq => h.2.2 q.1 q.2 (lass_mem.mp hq)⟩
/-- no long stands just ahead of place i -/
def okA (ls : LL) (i : Nat) : Bool := match i with
  | 0 => true
  | j + 1 => match ls[j]? with
    | some (some v) => v.category == 1
    | _ => true
theorem okA_not {ls : LL} {i j : Nat} {w : Value} (h : okA ls i = true) (hj : ls[j]? = some (some w)) (hji : j + 1 = i) : w.category = 1 := by
  subst hji
  simp only [okA, hj] at h
  exact beq_iff_eq.mp h
theorem LH.put1 {la : Array Slot} {n i : Nat} {ls : LL} {v : Value} (h : LH la n ls) (hi : i < n) (hc : v.category = 1) (ho : okA ls i = true) : ∃ la', storeLocals la i v = some la' ∧ LH la' n (ls.set i (some v)) := by
  obtain ⟨la', h1, h2, h3, h4⟩ := lv_store1 h.has hi hc
  refine ⟨la', h1, h2, h3, fun j w hj => ?_⟩
  by_cases hji : j = i
  · subst hji
    rw [List.getElem?_set] at hj
    simp only [if_true] at hj
    split at hj
    · cases hj
      exact h4 (j, v) List.mem_cons_self
    · cases hj
  · rw [List.getElem?_set_ne (Ne.symm hji)] at hj
    refine h4 (j, w) (List.mem_cons_of_mem _ (List.mem_filter.mpr ⟨lass_mem.mpr hj, ?_⟩))
    have hn : ¬ (j + 1 = i ∧ w.category = 2) := fun q => by have := okA_not ho hj q.1; omega
    simp only [Bool.and_eq_true, Bool.not_eq_true', Bool.and_eq_false_iff, beq_eq_false_iff_ne, ne_eq]
    refine ⟨hji, ?_⟩
    by_cases h5 : j + 1 = i
    · exact Or.inr fun q => hn ⟨h5, q⟩
    · exact Or.inl h5
theorem LH.put2 {la : Array Slot} {n i : Nat} {ls : LL} {v : Value} (h : LH la n ls) (hi : i + 1 < n) (hc : v.category = 2) (ho : okA ls i = true) : ∃ la', storeLocals la i v = some la' ∧ LH la' n ((ls.set i (some v)).set (i + 1) none) := by
  obtain ⟨la', h1, h2, h3, h4⟩ := lv_store2 h.has hi hc
  refine ⟨la', h1, h2, h3, fun j w hj => ?_⟩
  by_cases hj1 : j = i + 1
  · subst hj1
    rw [List.getElem?_set] at hj
    simp only [if_true] at hj
    split at hj <;> cases hj
  · rw [List.getElem?_set_ne (Ne.symm hj1)] at hj
    by_cases hji : j = i
    · subst hji
      rw [List.getElem?_set] at hj
      simp only [if_true] at hj
      split at hj
      · cases hj
        exact h4 (j, v) List.mem_cons_self
      · cases hj
    · rw [List.getElem?_set_ne (Ne.symm hji)] at hj
      refine h4 (j, w) (List.mem_cons_of_mem _ (List.mem_filter.mpr ⟨lass_mem.mpr hj, ?_⟩))
      have hn : ¬ (j + 1 = i ∧ w.category = 2) := fun q => by have := okA_not ho hj q.1; omega
      simp only [Bool.and_eq_true, Bool.not_eq_true', Bool.and_eq_false_iff, beq_eq_false_iff_ne, ne_eq]
      refine ⟨hji, hj1, ?_⟩
      by_cases h5 : j + 1 = i
      · exact Or.inr fun q => hn ⟨h5, q⟩
      · exact Or.inl h5
/-- fewer known -/
def maskL : List Bool → LL → LL
  | b :: bs, x :: xs => (if b then x else none) :: maskL bs xs
  | _, _ => []
theorem maskL_at : ∀ (bs : List Bool) (ls : LL) (i : Nat) (v : Value), (maskL bs ls)[i]? = some (some v) → ls[i]? = some (some v)
  | [], ls, i, v, h => by cases ls <;> simp [maskL] at h
  | b :: bs, [], i, v, h => by simp [maskL] at h
  | b :: bs, x :: xs, 0, v, h => by
    simp only [maskL, List.getElem?_cons_zero] at h
    split at h
    · exact h
    · cases h
  | b :: bs, x :: xs, i + 1, v, h => by
    simp only [maskL, List.getElem?_cons_succ] at h ⊢
    exact maskL_at bs xs i v h
theorem LH.mask {la : Array Slot} {n : Nat} {ls : LL} (h : LH la n ls) (bs : List Bool) : LH la n (maskL bs ls) := ⟨h.1, h.2.1, fun i v hv => h.2.2 i v (maskL_at bs ls i v hv)⟩
end
section
/-! rules of a frame: an instruction a rule, over the memory -/
theorem mapIdx_at {G : Glob} {M : Mem} {a c k t : Nat} (h : (fks c)[k]? = some t) : ((fks c).mapIdx (fun k t => fv G M a k t))[k]? = some (fv G M a k t) := by
  rw [List.getElem?_mapIdx, h]
  rfl
theorem mapIdx_upI {G : Glob} {M : Mem} {a c k : Nat} {v : Int32} (h : (fks c)[k]? = some 0) : ((fks c).mapIdx (fun k t => fv G M a k t)).set k (.int v) = (fks c).mapIdx (fun j t => fv G (upI M a k v) a j t) := by
  apply List.ext_getElem?
  intro j
  by_cases hj : j = k
  · subst hj
    rw [List.getElem?_set_self (by rw [List.length_mapIdx]; exact (List.getElem?_eq_some_iff.mp h).1), List.getElem?_mapIdx, h]
    simp [fv, upI]
  · rw [List.getElem?_set_ne (Ne.symm hj), List.getElem?_mapIdx, List.getElem?_mapIdx]
    have e : ∀ t, fv G M a j t = fv G (upI M a k v) a j t := by
      intro t
      unfold fv
      split <;> simp [upI, hj]
    cases (fks c)[j]? with
    | none => rfl
    | some t => simp [e t]
theorem mapIdx_upL {G : Glob} {M : Mem} {a c k : Nat} {v : Int64} (h : (fks c)[k]? = some 1) : ((fks c).mapIdx (fun k t => fv G M a k t)).set k (.long v) = (fks c).mapIdx (fun j t => fv G (upL M a k v) a j t) := by
  apply List.ext_getElem?
  intro j
  by_cases hj : j = k
  · subst hj
    rw [List.getElem?_set_self (by rw [List.length_mapIdx]; exact (List.getElem?_eq_some_iff.mp h).1), List.getElem?_mapIdx, h]
    simp [fv, upL]
  · rw [List.getElem?_set_ne (Ne.symm hj), List.getElem?_mapIdx, List.getElem?_mapIdx]
    have e : ∀ t, fv G M a j t = fv G (upL M a k v) a j t := by
      intro t
      unfold fv
      split <;> simp [upL, hj]
    cases (fks c)[j]? with
    | none => rfl
    | some t => simp [e t]
theorem upd_upI (M : Mem) (a k : Nat) (v : Int32) : upd (M.1 a) k v = (upI M a k v).1 a := by
  funext j
  simp [upd, upI]
/-- what a field of a class is: its class's row of vwCl, its words, its place and type -/
def FB (ci k t : Nat) (r nm ds : String) : Prop := ∃ (C : String) (T : u_T) (N : Nat), vwCl[ci]? = some (C, T, N) ∧ (∀ w ∈ u_ws C T N, w ∈ gtbl) ∧ k < N ∧ (T k).1 = r ∧ (T k).2.1 = nm ∧ (T k).2.2.1 = ds ∧ (fks ci)[k]? = some t ∧ ci < 12
/-- and for a store -/
def FP (ci k t : Nat) (r nm ds : String) : Prop := ∃ (C : String) (T : u_T) (N : Nat) (ty0 : Nat → FieldType), vwCl[ci]? = some (C, T, N) ∧ (∀ w ∈ u_ws C T N, w ∈ gtbl) ∧ k < N ∧ (T k).1 = r ∧ (T k).2.1 = nm ∧ (T k).2.2.1 = ds ∧ (fks ci)[k]? = some t ∧ ci < 12 ∧
  (∀ k, k < N → parseFieldDescriptor (T k).2.2.1 = some (ty0 k)) ∧ (∀ a, a < N → ∀ b, b < N → a ≠ b → (T a).2.1 ≠ (T b).2.1) ∧ (T k).2.2.2 = false ∧ parseFieldDescriptor ds = some (if t = 0 then .int else .long) ∧ N = (fks ci).length
section FR
variable {p : Program} {l : Launch} {e : Env} {R : Room} {s : State} {m : MethodId} {args : Array Value} {below : List Frame} {meth : Method} {c : Code} {cells slots : Nat} {Qf : State → Prop}
variable {G : Glob} {nL : Nat} {cc : ByteArray} {own : String} {pc : Nat} {ls : LL} {st : List Value} {M : Mem}
def Fr (p : Program) (l : Launch) (e : Env) (R : Room) (s : State) (m : MethodId) (args : Array Value) (below : List Frame) (meth : Method) (c : Code) (G : Glob) (cells slots : Nat) (Qf : State → Prop) (nL : Nat) (pc : Nat) (ls : LL) (st : List Value) (M : Mem) : Prop :=
  ∀ (H : Heap) (locs : List Loc) (la : Array Slot), va_P (gD G) vwCl (wso G M) H → va_S (AG G) s.heap H locs → LH la nL ls → W p l e R s m args below meth c H locs cells slots Qf (F0 m pc la st)
def CxB (p : Program) (s : State) (m : MethodId) (args : Array Value) (c : Code) (G : Glob) (cc : ByteArray) (nL : Nat) (own : String) : Prop :=
  p.tables.exec = Jvm.exec ∧ c.code = cc ∧ c.maxLocals = nL ∧ s.vm.findClass own = some m.cls ∧ (∀ w ∈ gtbl, w.before args s = true) ∧ va_K (gD G) vwCl (tso G) s ∧ GI G
theorem fr_1 {n : Nat} {st' : List Value} (h : ∀ (H : Heap) (locs : List Loc) (la : Array Slot), LH la nL ls → W p l e R s m args below meth c H locs cells slots Qf (F0 m n la st') → W p l e R s m args below meth c H locs cells slots Qf (F0 m pc la st)) (K : Fr p l e R s m args below meth c G cells slots Qf nL n ls st' M) : Fr p l e R s m args below meth c G cells slots Qf nL pc ls st M :=
  fun H locs la hP hS hL => h H locs la hL (K H locs la hP hS hL)
theorem fr_iconst (X : CxB p s m args c G cc nL own) {n : Int} {v : Int32} (hd : decode cc pc = .ok (.iconst n, 1)) (hv : Int32.ofInt n = v) (K : Fr p l e R s m args below meth c G cells slots Qf nL (pc + 1) ls (.int v :: st) M) : Fr p l e R s m args below meth c G cells slots Qf nL pc ls st M :=
  fr_1 (fun _ _ _ _ k => lv_iconst X.1 X.2.1 hd hv k) K
theorem fr_bipush (X : CxB p s m args c G cc nL own) {n : Int} {v : Int32} (hd : decode cc pc = .ok (.bipush n, 2)) (hv : (Int8.ofInt n).toInt32 = v) (K : Fr p l e R s m args below meth c G cells slots Qf nL (pc + 2) ls (.int v :: st) M) : Fr p l e R s m args below meth c G cells slots Qf nL pc ls st M :=
  fr_1 (fun _ _ _ _ k => lv_bipush X.1 X.2.1 hd hv k) K
theorem fr_sipush (X : CxB p s m args c G cc nL own) {n : Int} {v : Int32} (hd : decode cc pc = .ok (.sipush n, 3)) (hv : (Int16.ofInt n).toInt32 = v) (K : Fr p l e R s m args below meth c G cells slots Qf nL (pc + 3) ls (.int v :: st) M) : Fr p l e R s m args below meth c G cells slots Qf nL pc ls st M :=
  fr_1 (fun _ _ _ _ k => lv_sipush X.1 X.2.1 hd hv k) K
theorem fr_lconst (X : CxB p s m args c G cc nL own) {n : Fin 2} {v : Int64} (hd : decode cc pc = .ok (.lconst n, 1)) (hv : Int64.ofNat (n : Nat) = v) (K : Fr p l e R s m args below meth c G cells slots Qf nL (pc + 1) ls (.long v :: st) M) : Fr p l e R s m args below meth c G cells slots Qf nL pc ls st M :=
  fr_1 (fun _ _ _ _ k => lv_lconst X.1 X.2.1 hd hv k) K
theorem fr_ldc (X : CxB p s m args c G cc nL own) {i : Nat} {v : Int32} (hc : Cond.constant own i v ∈ gtbl) (hd : decode cc pc = .ok (.ldc i, 2)) (K : Fr p l e R s m args below meth c G cells slots Qf nL (pc + 2) ls (.int v :: st) M) : Fr p l e R s m args below meth c G cells slots Qf nL pc ls st M :=
  fr_1 (fun _ _ _ _ k => lv_ldc X.1 X.2.1 X.2.2.2.1 (X.2.2.2.2.1 _ hc) hd k) K
theorem fr_ldc2 (X : CxB p s m args c G cc nL own) {i : Nat} {v : Int64} (hc : Cond.constantLong own i v ∈ gtbl) (hd : decode cc pc = .ok (.ldc2_w i, 3)) (K : Fr p l e R s m args below meth c G cells slots Qf nL (pc + 3) ls (.long v :: st) M) : Fr p l e R s m args below meth c G cells slots Qf nL pc ls st M :=
  fr_1 (fun _ _ _ _ k => lv_ldc2 X.1 X.2.1 X.2.2.2.1 (X.2.2.2.2.1 _ hc) hd k) K
theorem fr_iload_n (X : CxB p s m args c G cc nL own) {k : Fin 4} {i : Nat} {x : Int32} (hd : decode cc pc = .ok (.iload_n k, 1)) (hi : (k : Nat) = i) (hl : ls[i]? = some (some (.int x))) (K : Fr p l e R s m args below meth c G cells slots Qf nL (pc + 1) ls (.int x :: st) M) : Fr p l e R s m args below meth c G cells slots Qf nL pc ls st M :=
  fr_1 (fun _ _ _ hL k => lv_iload_n X.1 X.2.1 hd hi (hL.2.2 _ _ hl) k) K
theorem fr_iload (X : CxB p s m args c G cc nL own) {i : Nat} {x : Int32} (hd : decode cc pc = .ok (.iload i, 2)) (hl : ls[i]? = some (some (.int x))) (K : Fr p l e R s m args below meth c G cells slots Qf nL (pc + 2) ls (.int x :: st) M) : Fr p l e R s m args below meth c G cells slots Qf nL pc ls st M :=
  fr_1 (fun _ _ _ hL k => lv_iload X.1 X.2.1 hd (hL.2.2 _ _ hl) k) K
theorem fr_lload_n (X : CxB p s m args c G cc nL own) {k : Fin 4} {i : Nat} {x : Int64} (hd : decode cc pc = .ok (.lload_n k, 1)) (hi : (k : Nat) = i) (hl : ls[i]? = some (some (.long x))) (K : Fr p l e R s m args below meth c G cells slots Qf nL (pc + 1) ls (.long x :: st) M) : Fr p l e R s m args below meth c G cells slots Qf nL pc ls st M :=
  fr_1 (fun _ _ _ hL k => lv_lload_n X.1 X.2.1 hd hi (hL.2.2 _ _ hl) k) K
theorem fr_lload (X : CxB p s m args c G cc nL own) {i : Nat} {x : Int64} (hd : decode cc pc = .ok (.lload i, 2)) (hl : ls[i]? = some (some (.long x))) (K : Fr p l e R s m args below meth c G cells slots Qf nL (pc + 2) ls (.long x :: st) M) : Fr p l e R s m args below meth c G cells slots Qf nL pc ls st M :=
  fr_1 (fun _ _ _ hL k => lv_lload X.1 X.2.1 hd (hL.2.2 _ _ hl) k) K
theorem fr_aload_n (X : CxB p s m args c G cc nL own) {k : Fin 4} {i : Nat} {x : Nat} (hd : decode cc pc = .ok (.aload_n k, 1)) (hi : (k : Nat) = i) (hl : ls[i]? = some (some (.ref x))) (K : Fr p l e R s m args below meth c G cells slots Qf nL (pc + 1) ls (.ref x :: st) M) : Fr p l e R s m args below meth c G cells slots Qf nL pc ls st M :=
  fr_1 (fun _ _ _ hL k => lv_aload_n X.1 X.2.1 hd hi (hL.2.2 _ _ hl) k) K
theorem fr_aload (X : CxB p s m args c G cc nL own) {i : Nat} {x : Nat} (hd : decode cc pc = .ok (.aload i, 2)) (hl : ls[i]? = some (some (.ref x))) (K : Fr p l e R s m args below meth c G cells slots Qf nL (pc + 2) ls (.ref x :: st) M) : Fr p l e R s m args below meth c G cells slots Qf nL pc ls st M :=
  fr_1 (fun _ _ _ hL k => lv_aload X.1 X.2.1 hd (hL.2.2 _ _ hl) k) K
/-- a store's step of the machine, over the kit's row -/
theorem fr_st1 {i n : Nat} {v : Value} {ls' : LL} (h : ∀ (H : Heap) (locs : List Loc) (la : Array Slot), LH la nL ls → (∀ la' : Array Slot, LH la' nL ls' → W p l e R s m args below meth c H locs cells slots Qf (F0 m n la' st)) → W p l e R s m args below meth c H locs cells slots Qf (F0 m pc la (v :: st))) (K : Fr p l e R s m args below meth c G cells slots Qf nL n ls' st M) : Fr p l e R s m args below meth c G cells slots Qf nL pc ls (v :: st) M :=
  fun H locs la hP hS hL => h H locs la hL fun la' hL' => K H locs la' hP hS hL'
theorem LH_of {la : Array Slot} {n i : Nat} {ls ls' : LL} {v : Value} (h : lv_has la n ((i, v) :: (lass ls).filter (fun q => !(q.1 == i) && !(q.1 + 1 == i && q.2.category == 2)))) (ho : okA ls i = true) (hs : ls.set i (some v) = ls') : LH la n ls' := by
  subst hs
  obtain ⟨h2, h3, h4⟩ := h
  refine ⟨h2, h3, fun j w hj => ?_⟩
  by_cases hji : j = i
  · subst hji
    rw [List.getElem?_set] at hj
    simp only [if_true] at hj
    split at hj
    · cases hj
      exact h4 (j, v) List.mem_cons_self
    · cases hj
  · rw [List.getElem?_set_ne (Ne.symm hji)] at hj
    refine h4 (j, w) (List.mem_cons_of_mem _ (List.mem_filter.mpr ⟨lass_mem.mpr hj, ?_⟩))
    have hn : ¬ (j + 1 = i ∧ w.category = 2) := fun q => by have := okA_not ho hj q.1; omega
    simp only [Bool.and_eq_true, Bool.not_eq_true', Bool.and_eq_false_iff, beq_eq_false_iff_ne, ne_eq]
    refine ⟨hji, ?_⟩
    by_cases h5 : j + 1 = i
    · exact Or.inr fun q => hn ⟨h5, q⟩
    · exact Or.inl h5
theorem LH_of2 {la : Array Slot} {n i : Nat} {ls ls' : LL} {v : Value} (h : lv_has la n ((i, v) :: (lass ls).filter (fun q => !(q.1 == i) && (!(q.1 == i + 1) && !(q.1 + 1 == i && q.2.category == 2))))) (ho : okA ls i = true) (hs : (ls.set i (some v)).set (i + 1) none = ls') : LH la n ls' := by
  subst hs
  obtain ⟨h2, h3, h4⟩ := h
  refine ⟨h2, h3, fun j w hj => ?_⟩
  by_cases hj1 : j = i + 1
  · subst hj1
    rw [List.getElem?_set] at hj
    simp only [if_true] at hj
    split at hj <;> cases hj
  · rw [List.getElem?_set_ne (Ne.symm hj1)] at hj
    by_cases hji : j = i
    · subst hji
      rw [List.getElem?_set] at hj
      simp only [if_true] at hj
      split at hj
      · cases hj
        exact h4 (j, v) List.mem_cons_self
      · cases hj
    · rw [List.getElem?_set_ne (Ne.symm hji)] at hj
      refine h4 (j, w) (List.mem_cons_of_mem _ (List.mem_filter.mpr ⟨lass_mem.mpr hj, ?_⟩))
      have hn : ¬ (j + 1 = i ∧ w.category = 2) := fun q => by have := okA_not ho hj q.1; omega
      simp only [Bool.and_eq_true, Bool.not_eq_true', Bool.and_eq_false_iff, beq_eq_false_iff_ne, ne_eq]
      refine ⟨hji, hj1, ?_⟩
      by_cases h5 : j + 1 = i
      · exact Or.inr fun q => hn ⟨h5, q⟩
      · exact Or.inl h5
theorem fr_istore_n (X : CxB p s m args c G cc nL own) {k : Fin 4} {i : Nat} {x : Int32} {ls' : LL} (hd : decode cc pc = .ok (.istore_n k, 1)) (hi : (k : Nat) = i) (hn : i < nL) (ho : okA ls i = true) (hs : ls.set i (some (.int x)) = ls') (K : Fr p l e R s m args below meth c G cells slots Qf nL (pc + 1) ls' st M) : Fr p l e R s m args below meth c G cells slots Qf nL pc ls (.int x :: st) M :=
  fr_st1 (i := i) (fun _ _ _ hL k => lv_istore_n X.1 X.2.1 hd hi hL.has hn rfl (fun la' h => k la' (LH_of h ho hs))) K
theorem fr_istore (X : CxB p s m args c G cc nL own) {i : Nat} {x : Int32} {ls' : LL} (hd : decode cc pc = .ok (.istore i, 2)) (hn : i < nL) (ho : okA ls i = true) (hs : ls.set i (some (.int x)) = ls') (K : Fr p l e R s m args below meth c G cells slots Qf nL (pc + 2) ls' st M) : Fr p l e R s m args below meth c G cells slots Qf nL pc ls (.int x :: st) M :=
  fr_st1 (i := i) (fun _ _ _ hL k => lv_istore X.1 X.2.1 hd hL.has hn rfl (fun la' h => k la' (LH_of h ho hs))) K
theorem fr_lstore_n (X : CxB p s m args c G cc nL own) {k : Fin 4} {i : Nat} {x : Int64} {ls' : LL} (hd : decode cc pc = .ok (.lstore_n k, 1)) (hi : (k : Nat) = i) (hn : i + 1 < nL) (ho : okA ls i = true) (hs : (ls.set i (some (.long x))).set (i + 1) none = ls') (K : Fr p l e R s m args below meth c G cells slots Qf nL (pc + 1) ls' st M) : Fr p l e R s m args below meth c G cells slots Qf nL pc ls (.long x :: st) M :=
  fr_st1 (i := i) (fun _ _ _ hL k => lv_lstore_n X.1 X.2.1 hd hi hL.has hn rfl (fun la' h => k la' (LH_of2 h ho hs))) K
theorem fr_lstore (X : CxB p s m args c G cc nL own) {i : Nat} {x : Int64} {ls' : LL} (hd : decode cc pc = .ok (.lstore i, 2)) (hn : i + 1 < nL) (ho : okA ls i = true) (hs : (ls.set i (some (.long x))).set (i + 1) none = ls') (K : Fr p l e R s m args below meth c G cells slots Qf nL (pc + 2) ls' st M) : Fr p l e R s m args below meth c G cells slots Qf nL pc ls (.long x :: st) M :=
  fr_st1 (i := i) (fun _ _ _ hL k => lv_lstore X.1 X.2.1 hd hL.has hn rfl (fun la' h => k la' (LH_of2 h ho hs))) K
theorem fr_astore_n (X : CxB p s m args c G cc nL own) {k : Fin 4} {i : Nat} {x : Nat} {ls' : LL} (hd : decode cc pc = .ok (.astore_n k, 1)) (hi : (k : Nat) = i) (hn : i < nL) (ho : okA ls i = true) (hs : ls.set i (some (.ref x)) = ls') (K : Fr p l e R s m args below meth c G cells slots Qf nL (pc + 1) ls' st M) : Fr p l e R s m args below meth c G cells slots Qf nL pc ls (.ref x :: st) M :=
  fr_st1 (i := i) (fun _ _ _ hL k => lv_astore_n X.1 X.2.1 hd hi hL.has hn rfl (fun la' h => k la' (LH_of h ho hs))) K
theorem fr_astore (X : CxB p s m args c G cc nL own) {i : Nat} {x : Nat} {ls' : LL} (hd : decode cc pc = .ok (.astore i, 2)) (hn : i < nL) (ho : okA ls i = true) (hs : ls.set i (some (.ref x)) = ls') (K : Fr p l e R s m args below meth c G cells slots Qf nL (pc + 2) ls' st M) : Fr p l e R s m args below meth c G cells slots Qf nL pc ls (.ref x :: st) M :=
  fr_st1 (i := i) (fun _ _ _ hL k => lv_astore X.1 X.2.1 hd hL.has hn rfl (fun la' h => k la' (LH_of h ho hs))) K
theorem fr_iinc (X : CxB p s m args c G cc nL own) {i : Nat} {n : Int} {x v : Int32} {ls' : LL} (hd : decode cc pc = .ok (.iinc i n, 3)) (hl : ls[i]? = some (some (.int x))) (hv : x + Int32.ofInt n = v) (hn : i < nL) (ho : okA ls i = true) (hs : ls.set i (some (.int v)) = ls') (K : Fr p l e R s m args below meth c G cells slots Qf nL (pc + 3) ls' st M) : Fr p l e R s m args below meth c G cells slots Qf nL pc ls st M := by
  intro H locs la hP hS hL
  obtain ⟨k, hk⟩ := List.getElem?_of_mem (lass_mem (q := (i, .int x)).mpr hl)
  exact lv_iinc X.1 X.2.1 hd hL.has hk hv hn rfl (fun la' h => K H locs la' hP hS (LH_of h ho hs))
theorem fr_mask (bs : List Bool) {ls' : LL} (hs : maskL bs ls = ls') (K : Fr p l e R s m args below meth c G cells slots Qf nL pc ls' st M) : Fr p l e R s m args below meth c G cells slots Qf nL pc ls st M := by
  subst hs
  exact fun H locs la hP hS hL => K H locs la hP hS (hL.mask bs)
end FR
end
section
section FR2
variable {p : Program} {l : Launch} {e : Env} {R : Room} {s : State} {m : MethodId} {args : Array Value} {below : List Frame} {meth : Method} {c : Code} {cells slots : Nat} {Qf : State → Prop}
variable {G : Glob} {nL : Nat} {cc : ByteArray} {own : String} {pc : Nat} {ls : LL} {st : List Value} {M : Mem}
theorem fr_getI (X : CxB p s m args c G cc nL own) {a ci k idx : Nat} {r nm ds : String} (hd : decode cc pc = .ok (.getfield idx, 3)) (hk : kd a = ci) (hf : FB ci k 0 r nm ds) (hl : Cond.fieldLink own idx r nm ds ∈ gtbl) (K : Fr p l e R s m args below meth c G cells slots Qf nL (pc + 3) ls (.int (M.1 a k) :: st) M) : Fr p l e R s m args below meth c G cells slots Qf nL pc ls (.ref (ad G a) :: st) M := by
  obtain ⟨hx, hb, hml, hown, hts, hK, hi⟩ := X
  obtain ⟨C, T, N, h1, h2, h3, rfl, rfl, rfl, h4, h5⟩ := hf
  intro H locs la hP hS hL
  exact va_get hx hb hts h2 hown hK hP a (by rw [wso_at G M (kd_lt hk (by omega)), ent_obj G M hk h5]) h1 k h3 (hts _ hl) (fun x h => h) (mapIdx_at h4) hd (K H locs la hP hS hL)
theorem fr_getL (X : CxB p s m args c G cc nL own) {a ci k idx : Nat} {r nm ds : String} (hd : decode cc pc = .ok (.getfield idx, 3)) (hk : kd a = ci) (hf : FB ci k 1 r nm ds) (hl : Cond.fieldLink own idx r nm ds ∈ gtbl) (K : Fr p l e R s m args below meth c G cells slots Qf nL (pc + 3) ls (.long (M.2 a k) :: st) M) : Fr p l e R s m args below meth c G cells slots Qf nL pc ls (.ref (ad G a) :: st) M := by
  obtain ⟨hx, hb, hml, hown, hts, hK, hi⟩ := X
  obtain ⟨C, T, N, h1, h2, h3, rfl, rfl, rfl, h4, h5⟩ := hf
  intro H locs la hP hS hL
  exact va_get hx hb hts h2 hown hK hP a (by rw [wso_at G M (kd_lt hk (by omega)), ent_obj G M hk h5]) h1 k h3 (hts _ hl) (fun x h => h) (mapIdx_at h4) hd (K H locs la hP hS hL)
theorem fr_getR (X : CxB p s m args c G cc nL own) {a b ci k idx : Nat} {r nm ds : String} (hd : decode cc pc = .ok (.getfield idx, 3)) (hk : kd a = ci) (hr : rf a k = b) (hf : FB ci k 2 r nm ds) (hl : Cond.fieldLink own idx r nm ds ∈ gtbl) (K : Fr p l e R s m args below meth c G cells slots Qf nL (pc + 3) ls (.ref (ad G b) :: st) M) : Fr p l e R s m args below meth c G cells slots Qf nL pc ls (.ref (ad G a) :: st) M := by
  obtain ⟨hx, hb, hml, hown, hts, hK, hi⟩ := X
  obtain ⟨C, T, N, h1, h2, h3, rfl, rfl, rfl, h4, h5⟩ := hf
  subst hr
  intro H locs la hP hS hL
  exact va_get hx hb hts h2 hown hK hP a (by rw [wso_at G M (kd_lt hk (by omega)), ent_obj G M hk h5]) h1 k h3 (hts _ hl) (fun x h => h) (mapIdx_at h4) hd (K H locs la hP hS hL)
theorem fr_putI (X : CxB p s m args c G cc nL own) {a ci k idx : Nat} {r nm ds : String} {v : Int32} (hd : decode cc pc = .ok (.putfield idx, 3)) (hk : kd a = ci) (hf : FP ci k 0 r nm ds) (hl : Cond.fieldLink own idx r nm ds ∈ gtbl) (K : Fr p l e R s m args below meth c G cells slots Qf nL (pc + 3) ls st (upI M a k v)) : Fr p l e R s m args below meth c G cells slots Qf nL pc ls (.int v :: .ref (ad G a) :: st) M := by
  obtain ⟨hx, hb, hml, hown, hts, hK, hi⟩ := X
  obtain ⟨C, T, N, ty0, h1, h2, h3, rfl, rfl, rfl, h4, h5, h6, h7, h8, h9, h10⟩ := hf
  intro H locs la hP hS hL
  have ha := kd_lt hk (by omega)
  refine va_put hx hb hts h2 ty0 h6 h7 hown hK hP (wso_D hi M) hS a (by rw [wso_at G M ha, ent_obj G M hk h5]) h1 k h3 (hts _ hl) (fun x h => h) h8 h9 (v := .int v) rfl rfl (by rw [List.length_mapIdx, ← h10]; exact h3) hd fun H1 locs1 hP1 _ hS1 => ?_
  rw [wso_set ha (M' := upI M a k v) (by rw [ent_obj G _ hk h5, mapIdx_upI h4]) (fun b hb => ent_upI_ne G M a k v hb)] at hP1
  exact K H1 locs1 la hP1 hS1 hL
theorem fr_putL (X : CxB p s m args c G cc nL own) {a ci k idx : Nat} {r nm ds : String} {v : Int64} (hd : decode cc pc = .ok (.putfield idx, 3)) (hk : kd a = ci) (hf : FP ci k 1 r nm ds) (hl : Cond.fieldLink own idx r nm ds ∈ gtbl) (K : Fr p l e R s m args below meth c G cells slots Qf nL (pc + 3) ls st (upL M a k v)) : Fr p l e R s m args below meth c G cells slots Qf nL pc ls (.long v :: .ref (ad G a) :: st) M := by
  obtain ⟨hx, hb, hml, hown, hts, hK, hi⟩ := X
  obtain ⟨C, T, N, ty0, h1, h2, h3, rfl, rfl, rfl, h4, h5, h6, h7, h8, h9, h10⟩ := hf
  intro H locs la hP hS hL
  have ha := kd_lt hk (by omega)
  refine va_put hx hb hts h2 ty0 h6 h7 hown hK hP (wso_D hi M) hS a (by rw [wso_at G M ha, ent_obj G M hk h5]) h1 k h3 (hts _ hl) (fun x h => h) h8 h9 (v := .long v) rfl rfl (by rw [List.length_mapIdx, ← h10]; exact h3) hd fun H1 locs1 hP1 _ hS1 => ?_
  rw [wso_set ha (M' := upL M a k v) (by rw [ent_obj G _ hk h5, mapIdx_upL h4]) (fun b hb => ent_upL_ne G M a k v hb)] at hP1
  exact K H1 locs1 la hP1 hS1 hL
theorem fr_iald (X : CxB p s m args c G cc nL own) {a n : Nat} {i : Int32} (hd : decode cc pc = .ok (.iaload, 1)) (hk : kd a = 20) (hn : ln a = n) (hin : vp_in i n) (K : Fr p l e R s m args below meth c G cells slots Qf nL (pc + 1) ls (.int (M.1 a i.toNatClampNeg) :: st) M) : Fr p l e R s m args below meth c G cells slots Qf nL pc ls (.int i :: .ref (ad G a) :: st) M := by
  obtain ⟨hx, hb, hml, hown, hts, hK, hi⟩ := X
  subst hn
  intro H locs la hP hS hL
  exact va_iald hx hb hK hP a 0 (by rw [wso_at G M (kd_lt hk (by omega)), ent_num G M hk (by omega) (by omega)]) rfl hin hd (K H locs la hP hS hL)
theorem fr_bald (X : CxB p s m args c G cc nL own) {a n : Nat} {i : Int32} (hd : decode cc pc = .ok (.baload, 1)) (hk : kd a = 21) (hn : ln a = n) (hin : vp_in i n) (K : Fr p l e R s m args below meth c G cells slots Qf nL (pc + 1) ls (.int (M.1 a i.toNatClampNeg) :: st) M) : Fr p l e R s m args below meth c G cells slots Qf nL pc ls (.int i :: .ref (ad G a) :: st) M := by
  obtain ⟨hx, hb, hml, hown, hts, hK, hi⟩ := X
  subst hn
  intro H locs la hP hS hL
  exact va_bald hx hb hK hP a 1 (by rw [wso_at G M (kd_lt hk (by omega)), ent_num G M hk (by omega) (by omega)]) rfl hin hd (K H locs la hP hS hL)
theorem fr_iast (X : CxB p s m args c G cc nL own) {a n : Nat} {i v : Int32} (hd : decode cc pc = .ok (.iastore, 1)) (hk : kd a = 20) (hn : ln a = n) (hin : vp_in i n) (K : Fr p l e R s m args below meth c G cells slots Qf nL (pc + 1) ls st (upI M a i.toNatClampNeg v)) : Fr p l e R s m args below meth c G cells slots Qf nL pc ls (.int v :: .int i :: .ref (ad G a) :: st) M := by
  obtain ⟨hx, hb, hml, hown, hts, hK, hi⟩ := X
  subst hn
  intro H locs la hP hS hL
  have ha := kd_lt hk (by omega)
  refine va_iast hx hb hK hP (wso_D hi M) hS a 0 (by rw [wso_at G M ha, ent_num G M hk (by omega) (by omega)]) rfl hin hd fun H1 locs1 hP1 _ hS1 => ?_
  rw [wso_set ha (M' := upI M a i.toNatClampNeg v) (by rw [ent_num G _ hk (by omega) (by omega), upd_upI]) (fun b hb => ent_upI_ne G M a _ v hb)] at hP1
  exact K H1 locs1 la hP1 hS1 hL
theorem fr_bast (X : CxB p s m args c G cc nL own) {a n : Nat} {i v : Int32} (hd : decode cc pc = .ok (.bastore, 1)) (hk : kd a = 21) (hn : ln a = n) (hin : vp_in i n) (K : Fr p l e R s m args below meth c G cells slots Qf nL (pc + 1) ls st (upI M a i.toNatClampNeg v.toInt8.toInt32)) : Fr p l e R s m args below meth c G cells slots Qf nL pc ls (.int v :: .int i :: .ref (ad G a) :: st) M := by
  obtain ⟨hx, hb, hml, hown, hts, hK, hi⟩ := X
  subst hn
  intro H locs la hP hS hL
  have ha := kd_lt hk (by omega)
  refine va_bast hx hb hK hP (wso_D hi M) hS a 1 (by rw [wso_at G M ha, ent_num G M hk (by omega) (by omega)]) rfl hin hd fun H1 locs1 hP1 _ hS1 => ?_
  have e : vp_nar .byte v = v.toInt8.toInt32 := vp_nar_byte v
  rw [e] at hP1
  rw [wso_set ha (M' := upI M a i.toNatClampNeg v.toInt8.toInt32) (by rw [ent_num G _ hk (by omega) (by omega), upd_upI]) (fun b hb => ent_upI_ne G M a _ _ hb)] at hP1
  exact K H1 locs1 la hP1 hS1 hL
theorem fr_aald (X : CxB p s m args c G cc nL own) {a n b ci : Nat} {i : Int32} (hd : decode cc pc = .ok (.aaload, 1)) (hk : kd a = ci) (hc : ci = 22 ∨ ci = 23 ∨ ci = 24) (hn : ln a = n) (hin : vp_in i n) (hr : rf a i.toNatClampNeg = b) (K : Fr p l e R s m args below meth c G cells slots Qf nL (pc + 1) ls (.ref (ad G b) :: st) M) : Fr p l e R s m args below meth c G cells slots Qf nL pc ls (.int i :: .ref (ad G a) :: st) M := by
  obtain ⟨hx, hb, hml, hown, hts, hK, hi⟩ := X
  subst hn
  subst hr
  intro H locs la hP hS hL
  have hlt : i.toNatClampNeg < ln a := Nat.not_le.mp fun q => hin (Or.inr q)
  have hcell : H[ad G a]? = some (arrV (gc G ci) (ln a) (fun j => va_rf (some (ad G (rf a j))))) := by
    have h := hP a _ (wso_at G M (kd_lt hk (by omega)))
    rw [ent_ref G M hk (by omega)] at h
    exact h
  have key : ∀ ty : FieldType, (ty.isReference = true) → ArrOfT s (gc G ci) ty → W p l e R s m args below meth c H locs cells slots Qf (F0 m pc la (.int i :: .ref (ad G a) :: st)) := fun ty hty hA =>
    W.aald (v := .ref (ad G (rf a i.toNatClampNeg))) (ty := ty) hx hb hcell (hA _ _) hty (fun q => by cases q) (by show ¬ (i < 0 ∨ (arrV _ _ _).slots.size ≤ _); rw [arrV_size]; exact hin) (by show (arrV _ _ _).slots[_]? = _; rw [arrV_read _ _ hlt]; rfl) rfl rfl hd (K H locs la hP hS hL)
  rcases hc with rfl | rfl | rfl
  · exact key _ rfl (hK.2 2 _ rfl).1
  · exact key _ rfl (hK.2 3 _ rfl).1
  · exact key _ rfl (hK.2 4 _ rfl).1
theorem fr_alen (X : CxB p s m args c G cc nL own) {a ci : Nat} {v : Int32} (hd : decode cc pc = .ok (.arraylength, 1)) (hk : kd a = ci) (hc : ci = 20 ∨ ci = 24) (hv : Int32.ofNat (ln a) = v) (K : Fr p l e R s m args below meth c G cells slots Qf nL (pc + 1) ls (.int v :: st) M) : Fr p l e R s m args below meth c G cells slots Qf nL pc ls (.ref (ad G a) :: st) M := by
  obtain ⟨hx, hb, hml, hown, hts, hK, hi⟩ := X
  intro H locs la hP hS hL
  rcases hc with rfl | rfl
  · exact va_alen hx hb hK hP a 0 (by rw [wso_at G M (kd_lt hk (by omega)), ent_num G M hk (by omega) (by omega)]) rfl hv hd (K H locs la hP hS hL)
  · exact va_alen hx hb hK hP a 4 (by rw [wso_at G M (kd_lt hk (by omega)), ent_ref G M hk (by omega)]) rfl hv hd (K H locs la hP hS hL)
theorem fr_iadd (X : CxB p s m args c G cc nL own) {x y : Int32} (hd : decode cc pc = .ok (.iadd, 1)) (K : Fr p l e R s m args below meth c G cells slots Qf nL (pc + 1) ls (.int (x + y) :: st) M) : Fr p l e R s m args below meth c G cells slots Qf nL pc ls (.int y :: .int x :: st) M := fr_1 (fun _ _ _ _ k => lv_iadd X.1 X.2.1 hd k) K
theorem fr_isub (X : CxB p s m args c G cc nL own) {x y : Int32} (hd : decode cc pc = .ok (.isub, 1)) (K : Fr p l e R s m args below meth c G cells slots Qf nL (pc + 1) ls (.int (x - y) :: st) M) : Fr p l e R s m args below meth c G cells slots Qf nL pc ls (.int y :: .int x :: st) M := fr_1 (fun _ _ _ _ k => lv_isub X.1 X.2.1 hd k) K
theorem fr_imul (X : CxB p s m args c G cc nL own) {x y : Int32} (hd : decode cc pc = .ok (.imul, 1)) (K : Fr p l e R s m args below meth c G cells slots Qf nL (pc + 1) ls (.int (x * y) :: st) M) : Fr p l e R s m args below meth c G cells slots Qf nL pc ls (.int y :: .int x :: st) M := fr_1 (fun _ _ _ _ k => lv_imul X.1 X.2.1 hd k) K
theorem fr_iand (X : CxB p s m args c G cc nL own) {x y : Int32} (hd : decode cc pc = .ok (.iand, 1)) (K : Fr p l e R s m args below meth c G cells slots Qf nL (pc + 1) ls (.int (x &&& y) :: st) M) : Fr p l e R s m args below meth c G cells slots Qf nL pc ls (.int y :: .int x :: st) M := fr_1 (fun _ _ _ _ k => lv_iand X.1 X.2.1 hd k) K
theorem fr_ior (X : CxB p s m args c G cc nL own) {x y : Int32} (hd : decode cc pc = .ok (.ior, 1)) (K : Fr p l e R s m args below meth c G cells slots Qf nL (pc + 1) ls (.int (x ||| y) :: st) M) : Fr p l e R s m args below meth c G cells slots Qf nL pc ls (.int y :: .int x :: st) M := fr_1 (fun _ _ _ _ k => lv_ior X.1 X.2.1 hd k) K
theorem fr_ixor (X : CxB p s m args c G cc nL own) {x y : Int32} (hd : decode cc pc = .ok (.ixor, 1)) (K : Fr p l e R s m args below meth c G cells slots Qf nL (pc + 1) ls (.int (x ^^^ y) :: st) M) : Fr p l e R s m args below meth c G cells slots Qf nL pc ls (.int y :: .int x :: st) M := fr_1 (fun _ _ _ _ k => lv_ixor X.1 X.2.1 hd k) K
theorem fr_ishl (X : CxB p s m args c G cc nL own) {x y : Int32} (hd : decode cc pc = .ok (.ishl, 1)) (K : Fr p l e R s m args below meth c G cells slots Qf nL (pc + 1) ls (.int (x <<< (y &&& 31)) :: st) M) : Fr p l e R s m args below meth c G cells slots Qf nL pc ls (.int y :: .int x :: st) M := fr_1 (fun _ _ _ _ k => lv_ishl X.1 X.2.1 hd k) K
theorem fr_ishr (X : CxB p s m args c G cc nL own) {x y : Int32} (hd : decode cc pc = .ok (.ishr, 1)) (K : Fr p l e R s m args below meth c G cells slots Qf nL (pc + 1) ls (.int (x >>> (y &&& 31)) :: st) M) : Fr p l e R s m args below meth c G cells slots Qf nL pc ls (.int y :: .int x :: st) M := fr_1 (fun _ _ _ _ k => lv_ishr X.1 X.2.1 hd k) K
theorem fr_idiv (X : CxB p s m args c G cc nL own) {x y : Int32} (hd : decode cc pc = .ok (.idiv, 1)) (hne : ¬ y = 0) (K : Fr p l e R s m args below meth c G cells slots Qf nL (pc + 1) ls (.int (x / y) :: st) M) : Fr p l e R s m args below meth c G cells slots Qf nL pc ls (.int y :: .int x :: st) M := fr_1 (fun _ _ _ _ k => lv_idiv X.1 X.2.1 hd hne k) K
theorem fr_irem (X : CxB p s m args c G cc nL own) {x y : Int32} (hd : decode cc pc = .ok (.irem, 1)) (hne : ¬ y = 0) (K : Fr p l e R s m args below meth c G cells slots Qf nL (pc + 1) ls (.int (x - x / y * y) :: st) M) : Fr p l e R s m args below meth c G cells slots Qf nL pc ls (.int y :: .int x :: st) M := fr_1 (fun _ _ _ _ k => lv_irem X.1 X.2.1 hd hne k) K
theorem fr_ineg (X : CxB p s m args c G cc nL own) {x : Int32} (hd : decode cc pc = .ok (.ineg, 1)) (K : Fr p l e R s m args below meth c G cells slots Qf nL (pc + 1) ls (.int (-x) :: st) M) : Fr p l e R s m args below meth c G cells slots Qf nL pc ls (.int x :: st) M := fr_1 (fun _ _ _ _ k => lv_ineg X.1 X.2.1 hd k) K
theorem fr_ladd (X : CxB p s m args c G cc nL own) {x y : Int64} (hd : decode cc pc = .ok (.ladd, 1)) (K : Fr p l e R s m args below meth c G cells slots Qf nL (pc + 1) ls (.long (x + y) :: st) M) : Fr p l e R s m args below meth c G cells slots Qf nL pc ls (.long y :: .long x :: st) M := fr_1 (fun _ _ _ _ k => lv_ladd X.1 X.2.1 hd k) K
theorem fr_lmul (X : CxB p s m args c G cc nL own) {x y : Int64} (hd : decode cc pc = .ok (.lmul, 1)) (K : Fr p l e R s m args below meth c G cells slots Qf nL (pc + 1) ls (.long (x * y) :: st) M) : Fr p l e R s m args below meth c G cells slots Qf nL pc ls (.long y :: .long x :: st) M := fr_1 (fun _ _ _ _ k => lv_lmul X.1 X.2.1 hd k) K
theorem fr_ldiv (X : CxB p s m args c G cc nL own) {x y : Int64} (hd : decode cc pc = .ok (.ldiv, 1)) (hne : ¬ y = 0) (K : Fr p l e R s m args below meth c G cells slots Qf nL (pc + 1) ls (.long (x / y) :: st) M) : Fr p l e R s m args below meth c G cells slots Qf nL pc ls (.long y :: .long x :: st) M := fr_1 (fun _ _ _ _ k => lv_ldiv X.1 X.2.1 hd hne k) K
theorem fr_lrem (X : CxB p s m args c G cc nL own) {x y : Int64} (hd : decode cc pc = .ok (.lrem, 1)) (hne : ¬ y = 0) (K : Fr p l e R s m args below meth c G cells slots Qf nL (pc + 1) ls (.long (x - x / y * y) :: st) M) : Fr p l e R s m args below meth c G cells slots Qf nL pc ls (.long y :: .long x :: st) M := fr_1 (fun _ _ _ _ k => lv_lrem X.1 X.2.1 hd hne k) K
theorem fr_lcmp (X : CxB p s m args c G cc nL own) {x y : Int64} (hd : decode cc pc = .ok (.lcmp, 1)) (K : Fr p l e R s m args below meth c G cells slots Qf nL (pc + 1) ls (.int (lg_cmp x y) :: st) M) : Fr p l e R s m args below meth c G cells slots Qf nL pc ls (.long y :: .long x :: st) M := fr_1 (fun _ _ _ _ k => W.lcmp X.1 X.2.1 hd k) K
theorem fr_i2l (X : CxB p s m args c G cc nL own) {x : Int32} (hd : decode cc pc = .ok (.i2l, 1)) (K : Fr p l e R s m args below meth c G cells slots Qf nL (pc + 1) ls (.long x.toInt64 :: st) M) : Fr p l e R s m args below meth c G cells slots Qf nL pc ls (.int x :: st) M := fr_1 (fun _ _ _ _ k => lv_i2l X.1 X.2.1 hd rfl k) K
theorem fr_l2i (X : CxB p s m args c G cc nL own) {x : Int64} (hd : decode cc pc = .ok (.l2i, 1)) (K : Fr p l e R s m args below meth c G cells slots Qf nL (pc + 1) ls (.int x.toInt32 :: st) M) : Fr p l e R s m args below meth c G cells slots Qf nL pc ls (.long x :: st) M := fr_1 (fun _ _ _ _ k => lv_l2i X.1 X.2.1 hd rfl k) K
theorem fr_i2b (X : CxB p s m args c G cc nL own) {x : Int32} (hd : decode cc pc = .ok (.i2b, 1)) (K : Fr p l e R s m args below meth c G cells slots Qf nL (pc + 1) ls (.int x.toInt8.toInt32 :: st) M) : Fr p l e R s m args below meth c G cells slots Qf nL pc ls (.int x :: st) M := fr_1 (fun _ _ _ _ k => lv_i2b X.1 X.2.1 hd rfl k) K
theorem fr_iushr (X : CxB p s m args c G cc nL own) {x y : Int32} (hd : decode cc pc = .ok (.iushr, 1)) (K : Fr p l e R s m args below meth c G cells slots Qf nL (pc + 1) ls (.int ((x.toUInt32 >>> (y.toUInt32 &&& Int32.toUInt32 31)).toInt32) :: st) M) : Fr p l e R s m args below meth c G cells slots Qf nL pc ls (.int y :: .int x :: st) M := fr_1 (fun _ _ _ _ k => lv_iushr X.1 X.2.1 hd rfl k) K
theorem fr_dup (X : CxB p s m args c G cc nL own) {v : Value} (hd : decode cc pc = .ok (.dup, 1)) (hv : v.category = 1) (K : Fr p l e R s m args below meth c G cells slots Qf nL (pc + 1) ls (v :: v :: st) M) : Fr p l e R s m args below meth c G cells slots Qf nL pc ls (v :: st) M := fr_1 (fun _ _ _ _ k => lv_dup X.1 X.2.1 hd hv k) K
theorem fr_dup2 (X : CxB p s m args c G cc nL own) {v w : Value} (hd : decode cc pc = .ok (.dup2, 1)) (hv : v.category = 1) (hw : w.category = 1) (K : Fr p l e R s m args below meth c G cells slots Qf nL (pc + 1) ls (v :: w :: v :: w :: st) M) : Fr p l e R s m args below meth c G cells slots Qf nL pc ls (v :: w :: st) M := fr_1 (fun _ _ _ _ k => lv_dup2_11 X.1 X.2.1 hd hv hw k) K
theorem fr_goto (X : CxB p s m args c G cc nL own) {off : Int} {tgt : Nat} (hd : decode cc pc = .ok (.goto off, 3)) (ht : (pc : Int) + off = (tgt : Int)) (K : Fr p l e R s m args below meth c G cells slots Qf nL tgt ls st M) : Fr p l e R s m args below meth c G cells slots Qf nL pc ls st M := fr_1 (fun _ _ _ _ k => lv_goto X.1 X.2.1 hd ht k) K
end FR2
end
section
section FR3
variable {p : Program} {l : Launch} {e : Env} {R : Room} {s : State} {m : MethodId} {args : Array Value} {below : List Frame} {meth : Method} {c : Code} {cells slots : Nat} {Qf : State → Prop}
variable {G : Glob} {nL : Nat} {cc : ByteArray} {own : String} {pc : Nat} {ls : LL} {st : List Value} {M : Mem}
theorem fr_icmp_eq (X : CxB p s m args c G cc nL own) {x y : Int32} {off : Int} {tgt : Nat} (hd : decode cc pc = .ok (.if_icmp .eq off, 3)) (ht : (pc : Int) + off = (tgt : Int)) (KT : x = y → Fr p l e R s m args below meth c G cells slots Qf nL tgt ls st M) (KF : ¬ x = y → Fr p l e R s m args below meth c G cells slots Qf nL (pc + 3) ls st M) : Fr p l e R s m args below meth c G cells slots Qf nL pc ls (.int y :: .int x :: st) M :=
  fun H locs la hP hS hL => lv_icmp_eq X.1 X.2.1 hd ht (fun h => KT (h) H locs la hP hS hL) (fun h => KF (h) H locs la hP hS hL)
theorem fr_icmp_ne (X : CxB p s m args c G cc nL own) {x y : Int32} {off : Int} {tgt : Nat} (hd : decode cc pc = .ok (.if_icmp .ne off, 3)) (ht : (pc : Int) + off = (tgt : Int)) (KT : ¬ x = y → Fr p l e R s m args below meth c G cells slots Qf nL tgt ls st M) (KF : x = y → Fr p l e R s m args below meth c G cells slots Qf nL (pc + 3) ls st M) : Fr p l e R s m args below meth c G cells slots Qf nL pc ls (.int y :: .int x :: st) M :=
  fun H locs la hP hS hL => lv_icmp_ne X.1 X.2.1 hd ht (fun h => KT (h) H locs la hP hS hL) (fun h => KF (h) H locs la hP hS hL)
theorem fr_icmp_lt (X : CxB p s m args c G cc nL own) {x y : Int32} {off : Int} {tgt : Nat} (hd : decode cc pc = .ok (.if_icmp .lt off, 3)) (ht : (pc : Int) + off = (tgt : Int)) (KT : x < y → Fr p l e R s m args below meth c G cells slots Qf nL tgt ls st M) (KF : ¬ x < y → Fr p l e R s m args below meth c G cells slots Qf nL (pc + 3) ls st M) : Fr p l e R s m args below meth c G cells slots Qf nL pc ls (.int y :: .int x :: st) M :=
  fun H locs la hP hS hL => lv_icmp_lt X.1 X.2.1 hd ht (fun h => KT (h) H locs la hP hS hL) (fun h => KF (h) H locs la hP hS hL)
theorem fr_icmp_ge (X : CxB p s m args c G cc nL own) {x y : Int32} {off : Int} {tgt : Nat} (hd : decode cc pc = .ok (.if_icmp .ge off, 3)) (ht : (pc : Int) + off = (tgt : Int)) (KT : ¬ x < y → Fr p l e R s m args below meth c G cells slots Qf nL tgt ls st M) (KF : x < y → Fr p l e R s m args below meth c G cells slots Qf nL (pc + 3) ls st M) : Fr p l e R s m args below meth c G cells slots Qf nL pc ls (.int y :: .int x :: st) M :=
  fun H locs la hP hS hL => lv_icmp_ge X.1 X.2.1 hd ht (fun h => KT (Int32.not_lt.mpr h) H locs la hP hS hL) (fun h => KF (Int32.not_le.mp h) H locs la hP hS hL)
theorem fr_icmp_gt (X : CxB p s m args c G cc nL own) {x y : Int32} {off : Int} {tgt : Nat} (hd : decode cc pc = .ok (.if_icmp .gt off, 3)) (ht : (pc : Int) + off = (tgt : Int)) (KT : y < x → Fr p l e R s m args below meth c G cells slots Qf nL tgt ls st M) (KF : ¬ y < x → Fr p l e R s m args below meth c G cells slots Qf nL (pc + 3) ls st M) : Fr p l e R s m args below meth c G cells slots Qf nL pc ls (.int y :: .int x :: st) M :=
  fun H locs la hP hS hL => lv_icmp_gt X.1 X.2.1 hd ht (fun h => KT (h) H locs la hP hS hL) (fun h => KF (h) H locs la hP hS hL)
theorem fr_icmp_le (X : CxB p s m args c G cc nL own) {x y : Int32} {off : Int} {tgt : Nat} (hd : decode cc pc = .ok (.if_icmp .le off, 3)) (ht : (pc : Int) + off = (tgt : Int)) (KT : ¬ y < x → Fr p l e R s m args below meth c G cells slots Qf nL tgt ls st M) (KF : y < x → Fr p l e R s m args below meth c G cells slots Qf nL (pc + 3) ls st M) : Fr p l e R s m args below meth c G cells slots Qf nL pc ls (.int y :: .int x :: st) M :=
  fun H locs la hP hS hL => lv_icmp_le X.1 X.2.1 hd ht (fun h => KT (Int32.not_lt.mpr h) H locs la hP hS hL) (fun h => KF (Int32.not_le.mp h) H locs la hP hS hL)
theorem fr_if_eq (X : CxB p s m args c G cc nL own) {x : Int32} {off : Int} {tgt : Nat} (hd : decode cc pc = .ok (.ifCond .eq off, 3)) (ht : (pc : Int) + off = (tgt : Int)) (KT : x = 0 → Fr p l e R s m args below meth c G cells slots Qf nL tgt ls st M) (KF : ¬ x = 0 → Fr p l e R s m args below meth c G cells slots Qf nL (pc + 3) ls st M) : Fr p l e R s m args below meth c G cells slots Qf nL pc ls (.int x :: st) M :=
  fun H locs la hP hS hL => lv_if_eq X.1 X.2.1 hd ht (fun h => KT (h) H locs la hP hS hL) (fun h => KF (h) H locs la hP hS hL)
theorem fr_if_ne (X : CxB p s m args c G cc nL own) {x : Int32} {off : Int} {tgt : Nat} (hd : decode cc pc = .ok (.ifCond .ne off, 3)) (ht : (pc : Int) + off = (tgt : Int)) (KT : ¬ x = 0 → Fr p l e R s m args below meth c G cells slots Qf nL tgt ls st M) (KF : x = 0 → Fr p l e R s m args below meth c G cells slots Qf nL (pc + 3) ls st M) : Fr p l e R s m args below meth c G cells slots Qf nL pc ls (.int x :: st) M :=
  fun H locs la hP hS hL => lv_if_ne X.1 X.2.1 hd ht (fun h => KT (h) H locs la hP hS hL) (fun h => KF (h) H locs la hP hS hL)
theorem fr_if_lt (X : CxB p s m args c G cc nL own) {x : Int32} {off : Int} {tgt : Nat} (hd : decode cc pc = .ok (.ifCond .lt off, 3)) (ht : (pc : Int) + off = (tgt : Int)) (KT : x < 0 → Fr p l e R s m args below meth c G cells slots Qf nL tgt ls st M) (KF : ¬ x < 0 → Fr p l e R s m args below meth c G cells slots Qf nL (pc + 3) ls st M) : Fr p l e R s m args below meth c G cells slots Qf nL pc ls (.int x :: st) M :=
  fun H locs la hP hS hL => lv_if_lt X.1 X.2.1 hd ht (fun h => KT (h) H locs la hP hS hL) (fun h => KF (h) H locs la hP hS hL)
theorem fr_if_ge (X : CxB p s m args c G cc nL own) {x : Int32} {off : Int} {tgt : Nat} (hd : decode cc pc = .ok (.ifCond .ge off, 3)) (ht : (pc : Int) + off = (tgt : Int)) (KT : ¬ x < 0 → Fr p l e R s m args below meth c G cells slots Qf nL tgt ls st M) (KF : x < 0 → Fr p l e R s m args below meth c G cells slots Qf nL (pc + 3) ls st M) : Fr p l e R s m args below meth c G cells slots Qf nL pc ls (.int x :: st) M :=
  fun H locs la hP hS hL => lv_if_ge X.1 X.2.1 hd ht (fun h => KT (Int32.not_lt.mpr h) H locs la hP hS hL) (fun h => KF (Int32.not_le.mp h) H locs la hP hS hL)
theorem fr_if_gt (X : CxB p s m args c G cc nL own) {x : Int32} {off : Int} {tgt : Nat} (hd : decode cc pc = .ok (.ifCond .gt off, 3)) (ht : (pc : Int) + off = (tgt : Int)) (KT : 0 < x → Fr p l e R s m args below meth c G cells slots Qf nL tgt ls st M) (KF : ¬ 0 < x → Fr p l e R s m args below meth c G cells slots Qf nL (pc + 3) ls st M) : Fr p l e R s m args below meth c G cells slots Qf nL pc ls (.int x :: st) M :=
  fun H locs la hP hS hL => lv_if_gt X.1 X.2.1 hd ht (fun h => KT (h) H locs la hP hS hL) (fun h => KF (h) H locs la hP hS hL)
theorem fr_if_le (X : CxB p s m args c G cc nL own) {x : Int32} {off : Int} {tgt : Nat} (hd : decode cc pc = .ok (.ifCond .le off, 3)) (ht : (pc : Int) + off = (tgt : Int)) (KT : ¬ 0 < x → Fr p l e R s m args below meth c G cells slots Qf nL tgt ls st M) (KF : 0 < x → Fr p l e R s m args below meth c G cells slots Qf nL (pc + 3) ls st M) : Fr p l e R s m args below meth c G cells slots Qf nL pc ls (.int x :: st) M :=
  fun H locs la hP hS hL => lv_if_le X.1 X.2.1 hd ht (fun h => KT (Int32.not_lt.mpr h) H locs la hP hS hL) (fun h => KF (Int32.not_le.mp h) H locs la hP hS hL)
theorem fr_tswI (X : CxB p s m args c G cc nL own) {dflt lo hi off : Int} {offs : Array Int} {len tgt : Nat} {x v : Int32} (hd : decode cc pc = .ok (.tableswitch dflt lo hi offs, len)) (hx : x = v) (h1 : ¬ v.toInt < lo) (h2 : ¬ hi < v.toInt) (ho : offs[(v.toInt - lo).toNat]? = some off) (ht : (pc : Int) + off = (tgt : Int)) (K : Fr p l e R s m args below meth c G cells slots Qf nL tgt ls st M) : Fr p l e R s m args below meth c G cells slots Qf nL pc ls (.int x :: st) M := by
  subst hx
  exact fr_1 (fun _ _ _ _ k => lv_tableIn X.1 X.2.1 hd h1 h2 ho ht k) K
theorem fr_tswD (X : CxB p s m args c G cc nL own) {dflt lo hi : Int} {offs : Array Int} {len tgt : Nat} {x : Int32} (hd : decode cc pc = .ok (.tableswitch dflt lo hi offs, len)) (h : x.toInt < lo ∨ hi < x.toInt) (ht : (pc : Int) + dflt = (tgt : Int)) (K : Fr p l e R s m args below meth c G cells slots Qf nL tgt ls st M) : Fr p l e R s m args below meth c G cells slots Qf nL pc ls (.int x :: st) M :=
  fr_1 (fun _ _ _ _ k => lv_tableOut X.1 X.2.1 hd h ht k) K
theorem fr_lsw (X : CxB p s m args c G cc nL own) {dflt off : Int} {ps : Array (Int × Int)} {len tgt : Nat} {x : Int32} (hd : decode cc pc = .ok (.lookupswitch dflt ps, len)) (hp : (ps.toList.zip (ps.toList.drop 1)).all (fun (a, next) => a.1 < next.1) = true) (ho : Op.lookupswitch.offset ps.toList dflt x.toInt = off) (ht : (pc : Int) + off = (tgt : Int)) (K : Fr p l e R s m args below meth c G cells slots Qf nL tgt ls st M) : Fr p l e R s m args below meth c G cells slots Qf nL pc ls (.int x :: st) M :=
  fr_1 (fun _ _ _ _ k => lv_lookup X.1 X.2.1 hd hp ho ht k) K
theorem LH_ml {la : Array Slot} (X : CxB p s m args c G cc nL own) (h : LH la nL ls) : c.maxLocals = la.size := by rw [h.1]; exact X.2.2.1
theorem fr_max (X : CxB p s m args c G cc nL own) {idx : Nat} {x y : Int32} (hl : Cond.methodLink own idx Lib.Math.max.name ∈ gtbl) (hR : 1 ≤ R.frames ∧ 40 ≤ R.locals ∧ cells ≤ R.cells ∧ slots ≤ R.slots) (hw : Cond.static Lib.Math.max.name ∈ gtbl ∧ Cond.initialized "java/lang/Math" ∈ gtbl ∧ Cond.code Lib.Math.max.name Lib.Math.max.code 2 (some .int) ∈ gtbl) (hst : (st.map fun v => v.category).sum ≤ 20) (hd : decode cc pc = .ok (.invokestatic idx, 3)) (K : Fr p l e R s m args below meth c G cells slots Qf nL (pc + 3) ls (.int (if x < y then y else x) :: st) M) : Fr p l e R s m args below meth c G cells slots Qf nL pc ls (.int y :: .int x :: st) M :=
  fr_1 (fun _ _ _ hL k => va_mmax X.1 X.2.1 (LH_ml X hL) X.2.2.2.1 (X.2.2.2.2.1 _ hl) (X.2.2.2.2.1 _ hw.1) (X.2.2.2.2.1 _ hw.2.1) (X.2.2.2.2.1 _ hw.2.2) hR.1 (by omega) hR.2.2.1 hR.2.2.2 hd k) K
theorem fr_min (X : CxB p s m args c G cc nL own) {idx : Nat} {x y : Int32} (hl : Cond.methodLink own idx Lib.Math.min.name ∈ gtbl) (hR : 1 ≤ R.frames ∧ 40 ≤ R.locals ∧ cells ≤ R.cells ∧ slots ≤ R.slots) (hw : Cond.static Lib.Math.min.name ∈ gtbl ∧ Cond.initialized "java/lang/Math" ∈ gtbl ∧ Cond.code Lib.Math.min.name Lib.Math.min.code 2 (some .int) ∈ gtbl) (hst : (st.map fun v => v.category).sum ≤ 20) (hd : decode cc pc = .ok (.invokestatic idx, 3)) (K : Fr p l e R s m args below meth c G cells slots Qf nL (pc + 3) ls (.int (if y < x then y else x) :: st) M) : Fr p l e R s m args below meth c G cells slots Qf nL pc ls (.int y :: .int x :: st) M :=
  fr_1 (fun _ _ _ hL k => va_mmin X.1 X.2.1 (LH_ml X hL) X.2.2.2.1 (X.2.2.2.2.1 _ hl) (X.2.2.2.2.1 _ hw.1) (X.2.2.2.2.1 _ hw.2.1) (X.2.2.2.2.1 _ hw.2.2) hR.1 (by omega) hR.2.2.1 hR.2.2.2 hd k) K
theorem fr_abs (X : CxB p s m args c G cc nL own) {idx : Nat} {x : Int32} (hl : Cond.methodLink own idx Lib.Math.abs.name ∈ gtbl) (hR : 1 ≤ R.frames ∧ 40 ≤ R.locals ∧ cells ≤ R.cells ∧ slots ≤ R.slots) (hw : Cond.static Lib.Math.abs.name ∈ gtbl ∧ Cond.initialized "java/lang/Math" ∈ gtbl ∧ Cond.code Lib.Math.abs.name Lib.Math.abs.code 1 (some .int) ∈ gtbl) (hst : (st.map fun v => v.category).sum ≤ 20) (hd : decode cc pc = .ok (.invokestatic idx, 3)) (K : Fr p l e R s m args below meth c G cells slots Qf nL (pc + 3) ls (.int (if 0 ≤ x then x else 0 - x) :: st) M) : Fr p l e R s m args below meth c G cells slots Qf nL pc ls (.int x :: st) M :=
  fr_1 (fun _ _ _ hL k => va_mabs X.1 X.2.1 (LH_ml X hL) X.2.2.2.1 (X.2.2.2.2.1 _ hl) (X.2.2.2.2.1 _ hw.1) (X.2.2.2.2.1 _ hw.2.1) (X.2.2.2.2.1 _ hw.2.2) hR.1 (by omega) hR.2.2.1 hR.2.2.2 hd k) K
/-- System.arraycopy of int rows -/
theorem fr_acopy (X : CxB p s m args c G cc nL own) {idx a b : Nat} {sp dp n : Int32} (hl : Cond.methodLink own idx arraycopyName ∈ gtbl) (hR : 1 ≤ R.frames ∧ 40 ≤ R.locals) (hw : Cond.native arraycopyName ∈ gtbl ∧ Cond.static arraycopyName ∈ gtbl ∧ Cond.initialized "java/lang/System" ∈ gtbl) (hka : kd a = 20) (hkb : kd b = 20) (h1 : ¬ sp < 0) (h2 : ¬ dp < 0) (h3 : ¬ n < 0) (h4 : sp.toNatClampNeg + n.toNatClampNeg ≤ ln a) (h5 : dp.toNatClampNeg + n.toNatClampNeg ≤ ln b) (hst : (st.map fun v => v.category).sum ≤ 8) (hd : decode cc pc = .ok (.invokestatic idx, 3)) (K : Fr p l e R s m args below meth c G cells slots Qf nL (pc + 3) ls st (upC M a b sp.toNatClampNeg dp.toNatClampNeg n.toNatClampNeg)) : Fr p l e R s m args below meth c G cells slots Qf nL pc ls (.int n :: .int dp :: .ref (ad G b) :: .int sp :: .ref (ad G a) :: st) M := by
  intro H locs la hP hS hL
  have hml := LH_ml X hL
  obtain ⟨hx, hb, hml0, hown, hts, hK, hi⟩ := X
  have ha := kd_lt hka (by omega)
  have hb' := kd_lt hkb (by omega)
  refine va_copyi hx hb hml hown (hts _ hl) (hts _ hw.1) (hts _ hw.2.1) (hts _ hw.2.2) hK hP (wso_D hi M) hS a b 0 0 (by rw [wso_at G M ha, ent_num G M hka (by omega) (by omega)]) (by rw [wso_at G M hb', ent_num G M hkb (by omega) (by omega)]) rfl rfl rfl h1 h2 h3 h4 h5 (fun i _ => rfl) hR.1 (by
    have e : nativeFrameWords "java/lang/System" "arraycopy" 5 + 11 ≤ 32 := by decide +kernel
    omega) hd fun H1 locs1 hP1 _ hS1 => ?_
  rw [wso_set hb' (M' := upC M a b sp.toNatClampNeg dp.toNatClampNeg n.toNatClampNeg) (by
    rw [ent_num G _ hkb (by omega) (by omega)]
    have e : (upC M a b sp.toNatClampNeg dp.toNatClampNeg n.toNatClampNeg).1 b = va_cpy (M.1 a) (M.1 b) sp.toNatClampNeg dp.toNatClampNeg n.toNatClampNeg := by funext j; simp [upC]
    rw [e]) (fun q hq => ent_upC_ne G M a b _ _ _ hq)] at hP1
  exact K H1 locs1 la hP1 hS1 hL
/-- a method's contract, over the memory -/
abbrev MY : Type := MethodName × ByteArray × Nat × Option FieldType
def rmD (d : Nat) : Room := { frames := d, cells := 0, slots := 0, locals := 40 * d }
def wsY (Y : MY) : List Cond := Cond.code Y.1 Y.2.1 Y.2.2.1 Y.2.2.2 :: gtbl
def Qm (G : Glob) (Q : Option Value → Mem → Prop) : Array Value → State → Outcome → State → Prop := fun _ st oc t => (∃ (v : Option Value) (M' : Mem), oc = .returned v ∧ Q v M' ∧ va_P (gD G) vwCl (wso G M') t.heap) ∧ va_F (AG G) st t
def Bm (G : Glob) (M : Mem) : State → Prop := fun U => va_P (gD G) vwCl (wso G M) U.heap ∧ va_K (gD G) vwCl (tso G) U ∧ GI G
def WpM (G : Glob) (d : Nat) (Y : MY) (As : List Value) (M : Mem) (Q : Option Value → Mem → Prop) : Prop := Met (gl G) Y.1 (wsY Y) (rmD d) (va_Pc As (Bm G M)) (Qm G Q) 0 0 (AG G)
theorem Bm_blind (As : List Value) : FrameBlind (va_Pc As (Bm G M)) := fun a U g mk h => ⟨h.1, h.2.1, va_K.moved (u := U) (U := U.calling g mk a) (Vm.Alike.refl U.vm) h.2.2.1, h.2.2.2⟩
theorem WpM.mono {d : Nat} {Y : MY} {As : List Value} {Q Q' : Option Value → Mem → Prop} (h : WpM G d Y As M Q) (hq : ∀ v M', Q v M' → Q' v M') : WpM G d Y As M Q' := by
  intro p e ha hc hk s m args below hf happ hp hK
  obtain ⟨n, o, h1, h2, h3, ⟨⟨v, M', e1, e2, e3⟩, e4⟩, e5⟩ := h p e ha hc hk s m args below hf happ hp hK
  exact ⟨n, o, h1, h2, h3, ⟨⟨v, M', e1, hq _ _ e2, e3⟩, e4⟩, e5⟩
/-- behind a call -/
theorem fr_back {Q' : Option Value → Mem → Prop} {la : Array Slot} {H : Heap} {locs : List Loc} {st0 : List Value} {a : Array Value} (hr : va_Run p l e R s m args below meth c H locs cells slots 0 0 (F0 m pc la st0) st (Qm G Q' a) (AG G)) (hS : va_S (AG G) s.heap H locs) (hL : LH la nL ls) (K : ∀ v M', Q' v M' → Fr p l e R s m args below meth c G cells slots Qf nL (pc + 3) ls (v.toList ++ st) M') : W p l e R s m args below meth c H locs cells slots Qf (F0 m pc la st0) := by
  intro T hT X
  obtain ⟨v, st₀, t, T', L, h0, X', hL', e1, e2, ⟨⟨v', M', hv, hq, hP1⟩, hz, hk⟩, sg⟩ := hr T hT X
  cases hv
  rw [h0] at hz hk
  obtain ⟨t2, a1, b1⟩ := K v M' hq T'.heap (locs ++ L) la (by rw [e1]; exact hP1)
    ⟨Nat.le_trans hS.1 (by rw [e1]; exact hz), fun q h1 h2 => by rw [e1, hk q (Nat.lt_of_lt_of_le h1 hS.1) h2]; exact hS.2.1 q h1 h2, fun q hq => by
      rcases List.mem_append.mp hq with h | h
      · exact hS.2.2 q h
      · exact hL' q h⟩ hL T' rfl X'
  exact ⟨t2, sg t2 a1, b1⟩
/-- what is known of a method that is called: its words, how many parameters -/
def CM (Y : MY) (n : Nat) : Prop := Cond.code Y.1 Y.2.1 Y.2.2.1 Y.2.2.2 ∈ gtbl ∧ Cond.initialized Y.1.cls ∈ gtbl ∧ (Y.1.cls ≠ "java/lang/invoke/MethodHandle" ∧ Y.1.cls ≠ "java/lang/invoke/VarHandle" ∧ (parseMethodDescriptor Y.1.desc).map (fun d => d.parameters.length) = some n) ∧ Y.2.2.1 ≤ 21
def CMV (Y : MY) (n ci : Nat) : Prop := CM Y n ∧ Cond.instanceMethod Y.1 ∈ gtbl ∧ Cond.selects Y.1.cls Y.1 Y.1 ∈ gtbl ∧ (∃ (T : u_T) (N : Nat), vwCl[ci]? = some (Y.1.cls, T, N)) ∧ ci < 12
def CMS (Y : MY) (n : Nat) : Prop := CM Y n ∧ Cond.static Y.1 ∈ gtbl
theorem goodL : GoodIn gtbl gtbl := fun w h => ⟨h, tblG w h⟩
theorem goodY {Y : MY} {n : Nat} (h : CM Y n) : GoodIn gtbl (wsY Y) := fun w hw => by
  rcases List.mem_cons.mp hw with rfl | hw
  · exact goodL _ h.1
  · exact goodL _ hw
theorem fr_callV (X : CxB p s m args c G cc nL own) {a ci d n idx : Nat} {Y : MY} {As st0 : List Value} {Q' : Option Value → Mem → Prop} (hd : decode cc pc = .ok (.invokevirtual idx, 3)) (hk : kd a = ci) (hm : CMV Y n ci) (hl : Cond.methodLink own idx Y.1 ∈ gtbl) (hR : d + 1 ≤ R.frames ∧ 40 * (d + 1) ≤ R.locals ∧ cells ≤ R.cells ∧ slots ≤ R.slots) (hn : As.length = n) (hst : (st.map fun v => v.category).sum ≤ 8) (h0 : st0 = As.reverse ++ .ref (ad G a) :: st) (hG : gl G = l) (hC : WpM G d Y (.ref (ad G a) :: As) M Q') (K : ∀ v M', Q' v M' → Fr p l e R s m args below meth c G cells slots Qf nL (pc + 3) ls (v.toList ++ st) M') : Fr p l e R s m args below meth c G cells slots Qf nL pc ls st0 M := by
  subst hG
  intro H locs la hP hS hL
  obtain ⟨hx, hb, hml, hown, hts, hK, hi⟩ := X
  obtain ⟨hcm, hin, hse, ⟨T, N, hcl⟩, hci⟩ := hm
  have ha := kd_lt hk (by omega)
  have cb : CallB R s args own idx Y.1 Y.2.1 Y.2.2.1 Y.2.2.2 (wsY Y) (rmD d) 0 0 n := callB_of n hts (goodY hcm) rfl rfl rfl (hts _ hcm.2.1) (hts _ hl) hcm.2.2.1 ⟨hR.1, by have := hcm.2.2.2; have h2 := hR.2.1; show 8 + (Y.2.2.1 + 11) + 40 * d ≤ R.locals; omega⟩
  refine fr_back (va_runV (As := As) (rest := st) (b := ad G a) ⟨hx, hb, hml, hown, hts⟩ hC ⟨cb, hts _ hin, hts _ hse⟩ ⟨Bm_blind _, va_recv hK hP (ci := ci) (q0 := a) hcl (by rw [wso_at G M ha, ent_obj G M hk hci]), fun U hU hW => ⟨rfl, by rw [hU]; exact hP, va_K.moved hW.alike hK, hi⟩⟩ rfl hn hL.1 h0 (lv_room hst) hd ⟨hR.2.2.1, hR.2.2.2⟩) hS hL K
theorem fr_callS (X : CxB p s m args c G cc nL own) {d n idx : Nat} {Y : MY} {As st0 : List Value} {Q' : Option Value → Mem → Prop} (hd : decode cc pc = .ok (.invokestatic idx, 3)) (hm : CMS Y n) (hl : Cond.methodLink own idx Y.1 ∈ gtbl) (hR : d + 1 ≤ R.frames ∧ 40 * (d + 1) ≤ R.locals ∧ cells ≤ R.cells ∧ slots ≤ R.slots) (hn : As.length = n) (hst : (st.map fun v => v.category).sum ≤ 8) (h0 : st0 = As.reverse ++ st) (hG : gl G = l) (hC : WpM G d Y As M Q') (K : ∀ v M', Q' v M' → Fr p l e R s m args below meth c G cells slots Qf nL (pc + 3) ls (v.toList ++ st) M') : Fr p l e R s m args below meth c G cells slots Qf nL pc ls st0 M := by
  subst hG
  intro H locs la hP hS hL
  obtain ⟨hx, hb, hml, hown, hts, hK, hi⟩ := X
  obtain ⟨hcm, hin⟩ := hm
  have cb : CallB R s args own idx Y.1 Y.2.1 Y.2.2.1 Y.2.2.2 (wsY Y) (rmD d) 0 0 n := callB_of n hts (goodY hcm) rfl rfl rfl (hts _ hcm.2.1) (hts _ hl) hcm.2.2.1 ⟨hR.1, by have := hcm.2.2.2; have h2 := hR.2.1; show 8 + (Y.2.2.1 + 11) + 40 * d ≤ R.locals; omega⟩
  refine fr_back (va_runS (As := As) (rest := st) ⟨hx, hb, hml, hown, hts⟩ hC ⟨cb, hts _ hin⟩ ⟨Bm_blind _, fun U hU hW => ⟨rfl, by rw [hU]; exact hP, va_K.moved hW.alike hK, hi⟩⟩ rfl hn hL.1 h0 (lv_room hst) hd ⟨hR.2.2.1, hR.2.2.2⟩) hS hL K
end FR3
end
section
/-! a method's judgement: at pc, with these locals and this stack, over this memory, it comes to its end, and Q holds of answer and memory -/
def Wp (G : Glob) (d : Nat) (Y : MY) (pc : Nat) (ls : LL) (st : List Value) (M : Mem) (Q : Option Value → Mem → Prop) : Prop :=
  ∀ (p : Program) (e : Env) (s : State) (m : MethodId) (args : Array Value) (below : List Frame) (meth : Method) (c : Code), CxB p s m args c G Y.2.1 Y.2.2.1 Y.1.cls → meth.sig.returnType = Y.2.2.2 → meth.locks = false → Fr p (gl G) e (rmD d) s m args below meth c G 0 0 (MQ below (Qm G Q) args s 0 0 (AG G)) Y.2.2.1 pc ls st M
def RI (K : Int32 → Mem → Prop) : Option Value → Mem → Prop := fun v M => ∃ r, v = some (.int r) ∧ K r M
def RJ (K : Int64 → Mem → Prop) : Option Value → Mem → Prop := fun v M => ∃ r, v = some (.long r) ∧ K r M
def RV (K : Mem → Prop) : Option Value → Mem → Prop := fun v M => v = none ∧ K M
theorem lookup_mem : ∀ (l : List (Nat × Value)) (i : Nat) (v : Value), l.lookup i = some v → (i, v) ∈ l
  | [], i, v, h => by simp at h
  | (j, w) :: l, i, v, h => by
    rw [List.lookup_cons] at h
    cases hj : i == j with
    | true =>
      rw [hj] at h
      cases h
      rw [beq_iff_eq.mp hj]
      exact List.mem_cons_self
    | false =>
      rw [hj] at h
      exact List.mem_cons_of_mem _ (lookup_mem l i v h)
def lsE (n : Nat) (As : List Value) : LL := (List.range n).map fun i => (lv_args 0 As).lookup i
section WP
variable {G : Glob} {d : Nat} {Y : MY} {pc : Nat} {ls : LL} {st : List Value} {M : Mem} {Q : Option Value → Mem → Prop}
theorem wp_enter {As : List Value} {ls0 : LL} (hpl : plainName Y.1.cls = true) (hlen : (lg_sl As).length ≤ Y.2.2.1) (hls : lsE Y.2.2.1 As = ls0) (K : Wp G d Y 0 ls0 [] M Q) : WpM G d Y As M Q := by
  refine Met.ofW (cc := Y.2.1) (maxL := Y.2.2.1) (ret := Y.2.2.2) hpl rfl ?_
  intro p e s m args below meth c s₁ B hml hv
  obtain ⟨rfl, hP, hK, hi⟩ := hv
  have hts := atoms_spec (ws := wsY Y) B.pre
  have hl := lv_entry As (n := Y.2.2.1) hlen
  rw [lg_entry_eq]
  refine K p e s m _ below meth c ⟨B.exec, B.bytes, hml, findClass_of_methodNamed B.named, fun w hw => hts w (List.mem_cons_of_mem _ hw), hK, hi⟩ B.returns B.notSynchronized s.heap [] _ hP va_S.rf ⟨hl.1, hl.2.1, fun i v hv => ?_⟩
  subst hls
  refine hl.2.2 (i, v) (lookup_mem _ _ _ ?_)
  unfold lsE at hv
  rw [List.getElem?_map] at hv
  by_cases hn : i < Y.2.2.1
  · rw [List.getElem?_range hn] at hv
    exact Option.some.inj hv
  · rw [List.getElem?_eq_none (by rw [List.length_range]; omega)] at hv
    cases hv
theorem wp_iret {ty : FieldType} {v : Int32} (hd : decode Y.2.1 pc = .ok (.ireturn, 1)) (hr0 : Y.2.2.2 = some ty) (hn : narrow ty (.int v) = .int v) (h : Q (some (.int v)) M) : Wp G d Y pc ls [.int v] M Q :=
  fun p e s m args below meth c X hr9 hk9 H locs la hP hS hL => W.zret X.1 X.2.1 (hr9.trans hr0) hn (fun t ht hW => ⟨⟨_, M, rfl, h, by rw [ht]; exact hP⟩, hS.F ht⟩) hS.2.2 hd hk9
theorem wp_lret {v : Int64} (hd : decode Y.2.1 pc = .ok (.lreturn, 1)) (hr0 : Y.2.2.2 = some .long) (h : Q (some (.long v)) M) : Wp G d Y pc ls [.long v] M Q :=
  fun p e s m args below meth c X hr9 hk9 H locs la hP hS hL => W.lret X.1 X.2.1 (hr9.trans hr0) (fun t ht hW => ⟨⟨_, M, rfl, h, by rw [ht]; exact hP⟩, hS.F ht⟩) hS.2.2 hd hk9
theorem wp_vret (hd : decode Y.2.1 pc = .ok (.return_, 1)) (hr0 : Y.2.2.2 = none) (h : Q none M) : Wp G d Y pc ls [] M Q :=
  fun p e s m args below meth c X hr9 hk9 H locs la hP hS hL => W.vret X.1 X.2.1 (hr9.trans hr0) (fun t ht hW => ⟨⟨_, M, rfl, h, by rw [ht]; exact hP⟩, hS.F ht⟩) hS.2.2 hd hk9
theorem wp_iconst {n : Int} {v : Int32} (hd : decode Y.2.1 pc = .ok (.iconst n, 1)) (hv : Int32.ofInt n = v) (K : Wp G d Y (pc + 1) ls (.int v :: st) M Q) : Wp G d Y pc ls st M Q := fun p e s m args below meth c X hr9 hk9 => fr_iconst X hd hv (K p e s m args below meth c X hr9 hk9)
theorem wp_bipush {n : Int} {v : Int32} (hd : decode Y.2.1 pc = .ok (.bipush n, 2)) (hv : (Int8.ofInt n).toInt32 = v) (K : Wp G d Y (pc + 2) ls (.int v :: st) M Q) : Wp G d Y pc ls st M Q := fun p e s m args below meth c X hr9 hk9 => fr_bipush X hd hv (K p e s m args below meth c X hr9 hk9)
theorem wp_sipush {n : Int} {v : Int32} (hd : decode Y.2.1 pc = .ok (.sipush n, 3)) (hv : (Int16.ofInt n).toInt32 = v) (K : Wp G d Y (pc + 3) ls (.int v :: st) M Q) : Wp G d Y pc ls st M Q := fun p e s m args below meth c X hr9 hk9 => fr_sipush X hd hv (K p e s m args below meth c X hr9 hk9)
theorem wp_lconst {n : Fin 2} {v : Int64} (hd : decode Y.2.1 pc = .ok (.lconst n, 1)) (hv : Int64.ofNat (n : Nat) = v) (K : Wp G d Y (pc + 1) ls (.long v :: st) M Q) : Wp G d Y pc ls st M Q := fun p e s m args below meth c X hr9 hk9 => fr_lconst X hd hv (K p e s m args below meth c X hr9 hk9)
theorem wp_ldc {i : Nat} {v : Int32} (hc : Cond.constant Y.1.cls i v ∈ gtbl) (hd : decode Y.2.1 pc = .ok (.ldc i, 2)) (K : Wp G d Y (pc + 2) ls (.int v :: st) M Q) : Wp G d Y pc ls st M Q := fun p e s m args below meth c X hr9 hk9 => fr_ldc X hc hd (K p e s m args below meth c X hr9 hk9)
theorem wp_ldc2 {i : Nat} {v : Int64} (hc : Cond.constantLong Y.1.cls i v ∈ gtbl) (hd : decode Y.2.1 pc = .ok (.ldc2_w i, 3)) (K : Wp G d Y (pc + 3) ls (.long v :: st) M Q) : Wp G d Y pc ls st M Q := fun p e s m args below meth c X hr9 hk9 => fr_ldc2 X hc hd (K p e s m args below meth c X hr9 hk9)
theorem wp_iload_n {k : Fin 4} {i : Nat} {x : Int32} (hd : decode Y.2.1 pc = .ok (.iload_n k, 1)) (hi : (k : Nat) = i) (hl : ls[i]? = some (some (.int x))) (K : Wp G d Y (pc + 1) ls (.int x :: st) M Q) : Wp G d Y pc ls st M Q := fun p e s m args below meth c X hr9 hk9 => fr_iload_n X hd hi hl (K p e s m args below meth c X hr9 hk9)
theorem wp_iload {i : Nat} {x : Int32} (hd : decode Y.2.1 pc = .ok (.iload i, 2)) (hl : ls[i]? = some (some (.int x))) (K : Wp G d Y (pc + 2) ls (.int x :: st) M Q) : Wp G d Y pc ls st M Q := fun p e s m args below meth c X hr9 hk9 => fr_iload X hd hl (K p e s m args below meth c X hr9 hk9)
theorem wp_lload_n {k : Fin 4} {i : Nat} {x : Int64} (hd : decode Y.2.1 pc = .ok (.lload_n k, 1)) (hi : (k : Nat) = i) (hl : ls[i]? = some (some (.long x))) (K : Wp G d Y (pc + 1) ls (.long x :: st) M Q) : Wp G d Y pc ls st M Q := fun p e s m args below meth c X hr9 hk9 => fr_lload_n X hd hi hl (K p e s m args below meth c X hr9 hk9)
theorem wp_lload {i : Nat} {x : Int64} (hd : decode Y.2.1 pc = .ok (.lload i, 2)) (hl : ls[i]? = some (some (.long x))) (K : Wp G d Y (pc + 2) ls (.long x :: st) M Q) : Wp G d Y pc ls st M Q := fun p e s m args below meth c X hr9 hk9 => fr_lload X hd hl (K p e s m args below meth c X hr9 hk9)
theorem wp_aload_n {k : Fin 4} {i : Nat} {x : Nat} (hd : decode Y.2.1 pc = .ok (.aload_n k, 1)) (hi : (k : Nat) = i) (hl : ls[i]? = some (some (.ref x))) (K : Wp G d Y (pc + 1) ls (.ref x :: st) M Q) : Wp G d Y pc ls st M Q := fun p e s m args below meth c X hr9 hk9 => fr_aload_n X hd hi hl (K p e s m args below meth c X hr9 hk9)
theorem wp_aload {i : Nat} {x : Nat} (hd : decode Y.2.1 pc = .ok (.aload i, 2)) (hl : ls[i]? = some (some (.ref x))) (K : Wp G d Y (pc + 2) ls (.ref x :: st) M Q) : Wp G d Y pc ls st M Q := fun p e s m args below meth c X hr9 hk9 => fr_aload X hd hl (K p e s m args below meth c X hr9 hk9)
theorem wp_istore_n {k : Fin 4} {i : Nat} {x : Int32} {ls' : LL} (hd : decode Y.2.1 pc = .ok (.istore_n k, 1)) (hi : (k : Nat) = i) (hn : i < Y.2.2.1) (ho : okA ls i = true) (hs : ls.set i (some (.int x)) = ls') (K : Wp G d Y (pc + 1) ls' st M Q) : Wp G d Y pc ls (.int x :: st) M Q := fun p e s m args below meth c X hr9 hk9 => fr_istore_n X hd hi hn ho hs (K p e s m args below meth c X hr9 hk9)
theorem wp_istore {i : Nat} {x : Int32} {ls' : LL} (hd : decode Y.2.1 pc = .ok (.istore i, 2)) (hn : i < Y.2.2.1) (ho : okA ls i = true) (hs : ls.set i (some (.int x)) = ls') (K : Wp G d Y (pc + 2) ls' st M Q) : Wp G d Y pc ls (.int x :: st) M Q := fun p e s m args below meth c X hr9 hk9 => fr_istore X hd hn ho hs (K p e s m args below meth c X hr9 hk9)
theorem wp_lstore_n {k : Fin 4} {i : Nat} {x : Int64} {ls' : LL} (hd : decode Y.2.1 pc = .ok (.lstore_n k, 1)) (hi : (k : Nat) = i) (hn : i + 1 < Y.2.2.1) (ho : okA ls i = true) (hs : (ls.set i (some (.long x))).set (i + 1) none = ls') (K : Wp G d Y (pc + 1) ls' st M Q) : Wp G d Y pc ls (.long x :: st) M Q := fun p e s m args below meth c X hr9 hk9 => fr_lstore_n X hd hi hn ho hs (K p e s m args below meth c X hr9 hk9)
theorem wp_lstore {i : Nat} {x : Int64} {ls' : LL} (hd : decode Y.2.1 pc = .ok (.lstore i, 2)) (hn : i + 1 < Y.2.2.1) (ho : okA ls i = true) (hs : (ls.set i (some (.long x))).set (i + 1) none = ls') (K : Wp G d Y (pc + 2) ls' st M Q) : Wp G d Y pc ls (.long x :: st) M Q := fun p e s m args below meth c X hr9 hk9 => fr_lstore X hd hn ho hs (K p e s m args below meth c X hr9 hk9)
theorem wp_astore_n {k : Fin 4} {i : Nat} {x : Nat} {ls' : LL} (hd : decode Y.2.1 pc = .ok (.astore_n k, 1)) (hi : (k : Nat) = i) (hn : i < Y.2.2.1) (ho : okA ls i = true) (hs : ls.set i (some (.ref x)) = ls') (K : Wp G d Y (pc + 1) ls' st M Q) : Wp G d Y pc ls (.ref x :: st) M Q := fun p e s m args below meth c X hr9 hk9 => fr_astore_n X hd hi hn ho hs (K p e s m args below meth c X hr9 hk9)
theorem wp_astore {i : Nat} {x : Nat} {ls' : LL} (hd : decode Y.2.1 pc = .ok (.astore i, 2)) (hn : i < Y.2.2.1) (ho : okA ls i = true) (hs : ls.set i (some (.ref x)) = ls') (K : Wp G d Y (pc + 2) ls' st M Q) : Wp G d Y pc ls (.ref x :: st) M Q := fun p e s m args below meth c X hr9 hk9 => fr_astore X hd hn ho hs (K p e s m args below meth c X hr9 hk9)
theorem wp_iinc {i : Nat} {n : Int} {x v : Int32} {ls' : LL} (hd : decode Y.2.1 pc = .ok (.iinc i n, 3)) (hl : ls[i]? = some (some (.int x))) (hv : x + Int32.ofInt n = v) (hn : i < Y.2.2.1) (ho : okA ls i = true) (hs : ls.set i (some (.int v)) = ls') (K : Wp G d Y (pc + 3) ls' st M Q) : Wp G d Y pc ls st M Q := fun p e s m args below meth c X hr9 hk9 => fr_iinc X hd hl hv hn ho hs (K p e s m args below meth c X hr9 hk9)
theorem wp_getI {a ci k idx : Nat} {r nm ds : String} (hd : decode Y.2.1 pc = .ok (.getfield idx, 3)) (hk : kd a = ci) (hf : FB ci k 0 r nm ds) (hl : Cond.fieldLink Y.1.cls idx r nm ds ∈ gtbl) (K : Wp G d Y (pc + 3) ls (.int (M.1 a k) :: st) M Q) : Wp G d Y pc ls (.ref (ad G a) :: st) M Q := fun p e s m args below meth c X hr9 hk9 => fr_getI X hd hk hf hl (K p e s m args below meth c X hr9 hk9)
theorem wp_getL {a ci k idx : Nat} {r nm ds : String} (hd : decode Y.2.1 pc = .ok (.getfield idx, 3)) (hk : kd a = ci) (hf : FB ci k 1 r nm ds) (hl : Cond.fieldLink Y.1.cls idx r nm ds ∈ gtbl) (K : Wp G d Y (pc + 3) ls (.long (M.2 a k) :: st) M Q) : Wp G d Y pc ls (.ref (ad G a) :: st) M Q := fun p e s m args below meth c X hr9 hk9 => fr_getL X hd hk hf hl (K p e s m args below meth c X hr9 hk9)
theorem wp_getR {a b ci k idx : Nat} {r nm ds : String} (hd : decode Y.2.1 pc = .ok (.getfield idx, 3)) (hk : kd a = ci) (hr : rf a k = b) (hf : FB ci k 2 r nm ds) (hl : Cond.fieldLink Y.1.cls idx r nm ds ∈ gtbl) (K : Wp G d Y (pc + 3) ls (.ref (ad G b) :: st) M Q) : Wp G d Y pc ls (.ref (ad G a) :: st) M Q := fun p e s m args below meth c X hr9 hk9 => fr_getR X hd hk hr hf hl (K p e s m args below meth c X hr9 hk9)
theorem wp_putI {a ci k idx : Nat} {r nm ds : String} {v : Int32} (hd : decode Y.2.1 pc = .ok (.putfield idx, 3)) (hk : kd a = ci) (hf : FP ci k 0 r nm ds) (hl : Cond.fieldLink Y.1.cls idx r nm ds ∈ gtbl) (K : Wp G d Y (pc + 3) ls st (upI M a k v) Q) : Wp G d Y pc ls (.int v :: .ref (ad G a) :: st) M Q := fun p e s m args below meth c X hr9 hk9 => fr_putI X hd hk hf hl (K p e s m args below meth c X hr9 hk9)
theorem wp_putL {a ci k idx : Nat} {r nm ds : String} {v : Int64} (hd : decode Y.2.1 pc = .ok (.putfield idx, 3)) (hk : kd a = ci) (hf : FP ci k 1 r nm ds) (hl : Cond.fieldLink Y.1.cls idx r nm ds ∈ gtbl) (K : Wp G d Y (pc + 3) ls st (upL M a k v) Q) : Wp G d Y pc ls (.long v :: .ref (ad G a) :: st) M Q := fun p e s m args below meth c X hr9 hk9 => fr_putL X hd hk hf hl (K p e s m args below meth c X hr9 hk9)
theorem wp_iald {a n : Nat} {i : Int32} (hd : decode Y.2.1 pc = .ok (.iaload, 1)) (hk : kd a = 20) (hn : ln a = n) (hin : vp_in i n) (K : Wp G d Y (pc + 1) ls (.int (M.1 a i.toNatClampNeg) :: st) M Q) : Wp G d Y pc ls (.int i :: .ref (ad G a) :: st) M Q := fun p e s m args below meth c X hr9 hk9 => fr_iald X hd hk hn hin (K p e s m args below meth c X hr9 hk9)
theorem wp_bald {a n : Nat} {i : Int32} (hd : decode Y.2.1 pc = .ok (.baload, 1)) (hk : kd a = 21) (hn : ln a = n) (hin : vp_in i n) (K : Wp G d Y (pc + 1) ls (.int (M.1 a i.toNatClampNeg) :: st) M Q) : Wp G d Y pc ls (.int i :: .ref (ad G a) :: st) M Q := fun p e s m args below meth c X hr9 hk9 => fr_bald X hd hk hn hin (K p e s m args below meth c X hr9 hk9)
theorem wp_iast {a n : Nat} {i v : Int32} (hd : decode Y.2.1 pc = .ok (.iastore, 1)) (hk : kd a = 20) (hn : ln a = n) (hin : vp_in i n) (K : Wp G d Y (pc + 1) ls st (upI M a i.toNatClampNeg v) Q) : Wp G d Y pc ls (.int v :: .int i :: .ref (ad G a) :: st) M Q := fun p e s m args below meth c X hr9 hk9 => fr_iast X hd hk hn hin (K p e s m args below meth c X hr9 hk9)
theorem wp_bast {a n : Nat} {i v : Int32} (hd : decode Y.2.1 pc = .ok (.bastore, 1)) (hk : kd a = 21) (hn : ln a = n) (hin : vp_in i n) (K : Wp G d Y (pc + 1) ls st (upI M a i.toNatClampNeg v.toInt8.toInt32) Q) : Wp G d Y pc ls (.int v :: .int i :: .ref (ad G a) :: st) M Q := fun p e s m args below meth c X hr9 hk9 => fr_bast X hd hk hn hin (K p e s m args below meth c X hr9 hk9)
theorem wp_aald {a n b ci : Nat} {i : Int32} (hd : decode Y.2.1 pc = .ok (.aaload, 1)) (hk : kd a = ci) (hc : ci = 22 ∨ ci = 23 ∨ ci = 24) (hn : ln a = n) (hin : vp_in i n) (hr : rf a i.toNatClampNeg = b) (K : Wp G d Y (pc + 1) ls (.ref (ad G b) :: st) M Q) : Wp G d Y pc ls (.int i :: .ref (ad G a) :: st) M Q := fun p e s m args below meth c X hr9 hk9 => fr_aald X hd hk hc hn hin hr (K p e s m args below meth c X hr9 hk9)
theorem wp_alen {a ci : Nat} {v : Int32} (hd : decode Y.2.1 pc = .ok (.arraylength, 1)) (hk : kd a = ci) (hc : ci = 20 ∨ ci = 24) (hv : Int32.ofNat (ln a) = v) (K : Wp G d Y (pc + 1) ls (.int v :: st) M Q) : Wp G d Y pc ls (.ref (ad G a) :: st) M Q := fun p e s m args below meth c X hr9 hk9 => fr_alen X hd hk hc hv (K p e s m args below meth c X hr9 hk9)
theorem wp_iadd {x y : Int32} (hd : decode Y.2.1 pc = .ok (.iadd, 1)) (K : Wp G d Y (pc + 1) ls (.int (x + y) :: st) M Q) : Wp G d Y pc ls (.int y :: .int x :: st) M Q := fun p e s m args below meth c X hr9 hk9 => fr_iadd X hd (K p e s m args below meth c X hr9 hk9)
theorem wp_isub {x y : Int32} (hd : decode Y.2.1 pc = .ok (.isub, 1)) (K : Wp G d Y (pc + 1) ls (.int (x - y) :: st) M Q) : Wp G d Y pc ls (.int y :: .int x :: st) M Q := fun p e s m args below meth c X hr9 hk9 => fr_isub X hd (K p e s m args below meth c X hr9 hk9)
theorem wp_imul {x y : Int32} (hd : decode Y.2.1 pc = .ok (.imul, 1)) (K : Wp G d Y (pc + 1) ls (.int (x * y) :: st) M Q) : Wp G d Y pc ls (.int y :: .int x :: st) M Q := fun p e s m args below meth c X hr9 hk9 => fr_imul X hd (K p e s m args below meth c X hr9 hk9)
theorem wp_iand {x y : Int32} (hd : decode Y.2.1 pc = .ok (.iand, 1)) (K : Wp G d Y (pc + 1) ls (.int (x &&& y) :: st) M Q) : Wp G d Y pc ls (.int y :: .int x :: st) M Q := fun p e s m args below meth c X hr9 hk9 => fr_iand X hd (K p e s m args below meth c X hr9 hk9)
theorem wp_ior {x y : Int32} (hd : decode Y.2.1 pc = .ok (.ior, 1)) (K : Wp G d Y (pc + 1) ls (.int (x ||| y) :: st) M Q) : Wp G d Y pc ls (.int y :: .int x :: st) M Q := fun p e s m args below meth c X hr9 hk9 => fr_ior X hd (K p e s m args below meth c X hr9 hk9)
theorem wp_ixor {x y : Int32} (hd : decode Y.2.1 pc = .ok (.ixor, 1)) (K : Wp G d Y (pc + 1) ls (.int (x ^^^ y) :: st) M Q) : Wp G d Y pc ls (.int y :: .int x :: st) M Q := fun p e s m args below meth c X hr9 hk9 => fr_ixor X hd (K p e s m args below meth c X hr9 hk9)
theorem wp_ishl {x y : Int32} (hd : decode Y.2.1 pc = .ok (.ishl, 1)) (K : Wp G d Y (pc + 1) ls (.int (x <<< (y &&& 31)) :: st) M Q) : Wp G d Y pc ls (.int y :: .int x :: st) M Q := fun p e s m args below meth c X hr9 hk9 => fr_ishl X hd (K p e s m args below meth c X hr9 hk9)
theorem wp_ishr {x y : Int32} (hd : decode Y.2.1 pc = .ok (.ishr, 1)) (K : Wp G d Y (pc + 1) ls (.int (x >>> (y &&& 31)) :: st) M Q) : Wp G d Y pc ls (.int y :: .int x :: st) M Q := fun p e s m args below meth c X hr9 hk9 => fr_ishr X hd (K p e s m args below meth c X hr9 hk9)
theorem wp_idiv {x y : Int32} (hd : decode Y.2.1 pc = .ok (.idiv, 1)) (hne : ¬ y = 0) (K : Wp G d Y (pc + 1) ls (.int (x / y) :: st) M Q) : Wp G d Y pc ls (.int y :: .int x :: st) M Q := fun p e s m args below meth c X hr9 hk9 => fr_idiv X hd hne (K p e s m args below meth c X hr9 hk9)
theorem wp_irem {x y : Int32} (hd : decode Y.2.1 pc = .ok (.irem, 1)) (hne : ¬ y = 0) (K : Wp G d Y (pc + 1) ls (.int (x - x / y * y) :: st) M Q) : Wp G d Y pc ls (.int y :: .int x :: st) M Q := fun p e s m args below meth c X hr9 hk9 => fr_irem X hd hne (K p e s m args below meth c X hr9 hk9)
theorem wp_ineg {x : Int32} (hd : decode Y.2.1 pc = .ok (.ineg, 1)) (K : Wp G d Y (pc + 1) ls (.int (-x) :: st) M Q) : Wp G d Y pc ls (.int x :: st) M Q := fun p e s m args below meth c X hr9 hk9 => fr_ineg X hd (K p e s m args below meth c X hr9 hk9)
theorem wp_ladd {x y : Int64} (hd : decode Y.2.1 pc = .ok (.ladd, 1)) (K : Wp G d Y (pc + 1) ls (.long (x + y) :: st) M Q) : Wp G d Y pc ls (.long y :: .long x :: st) M Q := fun p e s m args below meth c X hr9 hk9 => fr_ladd X hd (K p e s m args below meth c X hr9 hk9)
theorem wp_lmul {x y : Int64} (hd : decode Y.2.1 pc = .ok (.lmul, 1)) (K : Wp G d Y (pc + 1) ls (.long (x * y) :: st) M Q) : Wp G d Y pc ls (.long y :: .long x :: st) M Q := fun p e s m args below meth c X hr9 hk9 => fr_lmul X hd (K p e s m args below meth c X hr9 hk9)
theorem wp_ldiv {x y : Int64} (hd : decode Y.2.1 pc = .ok (.ldiv, 1)) (hne : ¬ y = 0) (K : Wp G d Y (pc + 1) ls (.long (x / y) :: st) M Q) : Wp G d Y pc ls (.long y :: .long x :: st) M Q := fun p e s m args below meth c X hr9 hk9 => fr_ldiv X hd hne (K p e s m args below meth c X hr9 hk9)
theorem wp_lrem {x y : Int64} (hd : decode Y.2.1 pc = .ok (.lrem, 1)) (hne : ¬ y = 0) (K : Wp G d Y (pc + 1) ls (.long (x - x / y * y) :: st) M Q) : Wp G d Y pc ls (.long y :: .long x :: st) M Q := fun p e s m args below meth c X hr9 hk9 => fr_lrem X hd hne (K p e s m args below meth c X hr9 hk9)
theorem wp_lcmp {x y : Int64} (hd : decode Y.2.1 pc = .ok (.lcmp, 1)) (K : Wp G d Y (pc + 1) ls (.int (lg_cmp x y) :: st) M Q) : Wp G d Y pc ls (.long y :: .long x :: st) M Q := fun p e s m args below meth c X hr9 hk9 => fr_lcmp X hd (K p e s m args below meth c X hr9 hk9)
theorem wp_i2l {x : Int32} (hd : decode Y.2.1 pc = .ok (.i2l, 1)) (K : Wp G d Y (pc + 1) ls (.long x.toInt64 :: st) M Q) : Wp G d Y pc ls (.int x :: st) M Q := fun p e s m args below meth c X hr9 hk9 => fr_i2l X hd (K p e s m args below meth c X hr9 hk9)
theorem wp_l2i {x : Int64} (hd : decode Y.2.1 pc = .ok (.l2i, 1)) (K : Wp G d Y (pc + 1) ls (.int x.toInt32 :: st) M Q) : Wp G d Y pc ls (.long x :: st) M Q := fun p e s m args below meth c X hr9 hk9 => fr_l2i X hd (K p e s m args below meth c X hr9 hk9)
theorem wp_i2b {x : Int32} (hd : decode Y.2.1 pc = .ok (.i2b, 1)) (K : Wp G d Y (pc + 1) ls (.int x.toInt8.toInt32 :: st) M Q) : Wp G d Y pc ls (.int x :: st) M Q := fun p e s m args below meth c X hr9 hk9 => fr_i2b X hd (K p e s m args below meth c X hr9 hk9)
theorem wp_iushr {x y : Int32} (hd : decode Y.2.1 pc = .ok (.iushr, 1)) (K : Wp G d Y (pc + 1) ls (.int ((x.toUInt32 >>> (y.toUInt32 &&& Int32.toUInt32 31)).toInt32) :: st) M Q) : Wp G d Y pc ls (.int y :: .int x :: st) M Q := fun p e s m args below meth c X hr9 hk9 => fr_iushr X hd (K p e s m args below meth c X hr9 hk9)
theorem wp_dup {v : Value} (hd : decode Y.2.1 pc = .ok (.dup, 1)) (hv : v.category = 1) (K : Wp G d Y (pc + 1) ls (v :: v :: st) M Q) : Wp G d Y pc ls (v :: st) M Q := fun p e s m args below meth c X hr9 hk9 => fr_dup X hd hv (K p e s m args below meth c X hr9 hk9)
theorem wp_dup2 {v w : Value} (hd : decode Y.2.1 pc = .ok (.dup2, 1)) (hv : v.category = 1) (hw : w.category = 1) (K : Wp G d Y (pc + 1) ls (v :: w :: v :: w :: st) M Q) : Wp G d Y pc ls (v :: w :: st) M Q := fun p e s m args below meth c X hr9 hk9 => fr_dup2 X hd hv hw (K p e s m args below meth c X hr9 hk9)
theorem wp_goto {off : Int} {tgt : Nat} (hd : decode Y.2.1 pc = .ok (.goto off, 3)) (ht : (pc : Int) + off = (tgt : Int)) (K : Wp G d Y tgt ls st M Q) : Wp G d Y pc ls st M Q := fun p e s m args below meth c X hr9 hk9 => fr_goto X hd ht (K p e s m args below meth c X hr9 hk9)
theorem wp_icmp_eq {x y : Int32} {off : Int} {tgt : Nat} (hd : decode Y.2.1 pc = .ok (.if_icmp .eq off, 3)) (ht : (pc : Int) + off = (tgt : Int)) (KT : x = y → Wp G d Y tgt ls st M Q) (KF : ¬ x = y → Wp G d Y (pc + 3) ls st M Q) : Wp G d Y pc ls (.int y :: .int x :: st) M Q := fun p e s m args below meth c X hr9 hk9 => fr_icmp_eq X hd ht (fun h => KT h p e s m args below meth c X hr9 hk9) (fun h => KF h p e s m args below meth c X hr9 hk9)
theorem wp_icmp_ne {x y : Int32} {off : Int} {tgt : Nat} (hd : decode Y.2.1 pc = .ok (.if_icmp .ne off, 3)) (ht : (pc : Int) + off = (tgt : Int)) (KT : ¬ x = y → Wp G d Y tgt ls st M Q) (KF : x = y → Wp G d Y (pc + 3) ls st M Q) : Wp G d Y pc ls (.int y :: .int x :: st) M Q := fun p e s m args below meth c X hr9 hk9 => fr_icmp_ne X hd ht (fun h => KT h p e s m args below meth c X hr9 hk9) (fun h => KF h p e s m args below meth c X hr9 hk9)
theorem wp_icmp_lt {x y : Int32} {off : Int} {tgt : Nat} (hd : decode Y.2.1 pc = .ok (.if_icmp .lt off, 3)) (ht : (pc : Int) + off = (tgt : Int)) (KT : x < y → Wp G d Y tgt ls st M Q) (KF : ¬ x < y → Wp G d Y (pc + 3) ls st M Q) : Wp G d Y pc ls (.int y :: .int x :: st) M Q := fun p e s m args below meth c X hr9 hk9 => fr_icmp_lt X hd ht (fun h => KT h p e s m args below meth c X hr9 hk9) (fun h => KF h p e s m args below meth c X hr9 hk9)
theorem wp_icmp_ge {x y : Int32} {off : Int} {tgt : Nat} (hd : decode Y.2.1 pc = .ok (.if_icmp .ge off, 3)) (ht : (pc : Int) + off = (tgt : Int)) (KT : ¬ x < y → Wp G d Y tgt ls st M Q) (KF : x < y → Wp G d Y (pc + 3) ls st M Q) : Wp G d Y pc ls (.int y :: .int x :: st) M Q := fun p e s m args below meth c X hr9 hk9 => fr_icmp_ge X hd ht (fun h => KT h p e s m args below meth c X hr9 hk9) (fun h => KF h p e s m args below meth c X hr9 hk9)
theorem wp_icmp_gt {x y : Int32} {off : Int} {tgt : Nat} (hd : decode Y.2.1 pc = .ok (.if_icmp .gt off, 3)) (ht : (pc : Int) + off = (tgt : Int)) (KT : y < x → Wp G d Y tgt ls st M Q) (KF : ¬ y < x → Wp G d Y (pc + 3) ls st M Q) : Wp G d Y pc ls (.int y :: .int x :: st) M Q := fun p e s m args below meth c X hr9 hk9 => fr_icmp_gt X hd ht (fun h => KT h p e s m args below meth c X hr9 hk9) (fun h => KF h p e s m args below meth c X hr9 hk9)
theorem wp_icmp_le {x y : Int32} {off : Int} {tgt : Nat} (hd : decode Y.2.1 pc = .ok (.if_icmp .le off, 3)) (ht : (pc : Int) + off = (tgt : Int)) (KT : ¬ y < x → Wp G d Y tgt ls st M Q) (KF : y < x → Wp G d Y (pc + 3) ls st M Q) : Wp G d Y pc ls (.int y :: .int x :: st) M Q := fun p e s m args below meth c X hr9 hk9 => fr_icmp_le X hd ht (fun h => KT h p e s m args below meth c X hr9 hk9) (fun h => KF h p e s m args below meth c X hr9 hk9)
theorem wp_if_eq {x : Int32} {off : Int} {tgt : Nat} (hd : decode Y.2.1 pc = .ok (.ifCond .eq off, 3)) (ht : (pc : Int) + off = (tgt : Int)) (KT : x = 0 → Wp G d Y tgt ls st M Q) (KF : ¬ x = 0 → Wp G d Y (pc + 3) ls st M Q) : Wp G d Y pc ls (.int x :: st) M Q := fun p e s m args below meth c X hr9 hk9 => fr_if_eq X hd ht (fun h => KT h p e s m args below meth c X hr9 hk9) (fun h => KF h p e s m args below meth c X hr9 hk9)
theorem wp_if_ne {x : Int32} {off : Int} {tgt : Nat} (hd : decode Y.2.1 pc = .ok (.ifCond .ne off, 3)) (ht : (pc : Int) + off = (tgt : Int)) (KT : ¬ x = 0 → Wp G d Y tgt ls st M Q) (KF : x = 0 → Wp G d Y (pc + 3) ls st M Q) : Wp G d Y pc ls (.int x :: st) M Q := fun p e s m args below meth c X hr9 hk9 => fr_if_ne X hd ht (fun h => KT h p e s m args below meth c X hr9 hk9) (fun h => KF h p e s m args below meth c X hr9 hk9)
theorem wp_if_lt {x : Int32} {off : Int} {tgt : Nat} (hd : decode Y.2.1 pc = .ok (.ifCond .lt off, 3)) (ht : (pc : Int) + off = (tgt : Int)) (KT : x < 0 → Wp G d Y tgt ls st M Q) (KF : ¬ x < 0 → Wp G d Y (pc + 3) ls st M Q) : Wp G d Y pc ls (.int x :: st) M Q := fun p e s m args below meth c X hr9 hk9 => fr_if_lt X hd ht (fun h => KT h p e s m args below meth c X hr9 hk9) (fun h => KF h p e s m args below meth c X hr9 hk9)
theorem wp_if_ge {x : Int32} {off : Int} {tgt : Nat} (hd : decode Y.2.1 pc = .ok (.ifCond .ge off, 3)) (ht : (pc : Int) + off = (tgt : Int)) (KT : ¬ x < 0 → Wp G d Y tgt ls st M Q) (KF : x < 0 → Wp G d Y (pc + 3) ls st M Q) : Wp G d Y pc ls (.int x :: st) M Q := fun p e s m args below meth c X hr9 hk9 => fr_if_ge X hd ht (fun h => KT h p e s m args below meth c X hr9 hk9) (fun h => KF h p e s m args below meth c X hr9 hk9)
theorem wp_if_gt {x : Int32} {off : Int} {tgt : Nat} (hd : decode Y.2.1 pc = .ok (.ifCond .gt off, 3)) (ht : (pc : Int) + off = (tgt : Int)) (KT : 0 < x → Wp G d Y tgt ls st M Q) (KF : ¬ 0 < x → Wp G d Y (pc + 3) ls st M Q) : Wp G d Y pc ls (.int x :: st) M Q := fun p e s m args below meth c X hr9 hk9 => fr_if_gt X hd ht (fun h => KT h p e s m args below meth c X hr9 hk9) (fun h => KF h p e s m args below meth c X hr9 hk9)
theorem wp_if_le {x : Int32} {off : Int} {tgt : Nat} (hd : decode Y.2.1 pc = .ok (.ifCond .le off, 3)) (ht : (pc : Int) + off = (tgt : Int)) (KT : ¬ 0 < x → Wp G d Y tgt ls st M Q) (KF : 0 < x → Wp G d Y (pc + 3) ls st M Q) : Wp G d Y pc ls (.int x :: st) M Q := fun p e s m args below meth c X hr9 hk9 => fr_if_le X hd ht (fun h => KT h p e s m args below meth c X hr9 hk9) (fun h => KF h p e s m args below meth c X hr9 hk9)
theorem wp_tswI {dflt lo hi off : Int} {offs : Array Int} {len tgt : Nat} {x v : Int32} (hd : decode Y.2.1 pc = .ok (.tableswitch dflt lo hi offs, len)) (hx : x = v) (h1 : ¬ v.toInt < lo) (h2 : ¬ hi < v.toInt) (ho : offs[(v.toInt - lo).toNat]? = some off) (ht : (pc : Int) + off = (tgt : Int)) (K : Wp G d Y tgt ls st M Q) : Wp G d Y pc ls (.int x :: st) M Q := fun p e s m args below meth c X hr9 hk9 => fr_tswI X hd hx h1 h2 ho ht (K p e s m args below meth c X hr9 hk9)
theorem wp_tswD {dflt lo hi : Int} {offs : Array Int} {len tgt : Nat} {x : Int32} (hd : decode Y.2.1 pc = .ok (.tableswitch dflt lo hi offs, len)) (h : x.toInt < lo ∨ hi < x.toInt) (ht : (pc : Int) + dflt = (tgt : Int)) (K : Wp G d Y tgt ls st M Q) : Wp G d Y pc ls (.int x :: st) M Q := fun p e s m args below meth c X hr9 hk9 => fr_tswD X hd h ht (K p e s m args below meth c X hr9 hk9)
theorem wp_lsw {dflt off : Int} {ps : Array (Int × Int)} {len tgt : Nat} {x : Int32} (hd : decode Y.2.1 pc = .ok (.lookupswitch dflt ps, len)) (hp : (ps.toList.zip (ps.toList.drop 1)).all (fun (a, next) => a.1 < next.1) = true) (ho : Op.lookupswitch.offset ps.toList dflt x.toInt = off) (ht : (pc : Int) + off = (tgt : Int)) (K : Wp G d Y tgt ls st M Q) : Wp G d Y pc ls (.int x :: st) M Q := fun p e s m args below meth c X hr9 hk9 => fr_lsw X hd hp ho ht (K p e s m args below meth c X hr9 hk9)
theorem wp_max {idx : Nat} {x y : Int32} (hl : Cond.methodLink Y.1.cls idx Lib.Math.max.name ∈ gtbl) (hdd : 1 ≤ d) (hw : Cond.static Lib.Math.max.name ∈ gtbl ∧ Cond.initialized "java/lang/Math" ∈ gtbl ∧ Cond.code Lib.Math.max.name Lib.Math.max.code 2 (some .int) ∈ gtbl) (hst : (st.map fun v => v.category).sum ≤ 20) (hd : decode Y.2.1 pc = .ok (.invokestatic idx, 3)) (K : Wp G d Y (pc + 3) ls (.int (if x < y then y else x) :: st) M Q) : Wp G d Y pc ls (.int y :: .int x :: st) M Q := fun p e s m args below meth c X hr9 hk9 => fr_max X hl ⟨hdd, by show 40 ≤ 40 * d; omega, Nat.le_refl _, Nat.le_refl _⟩ hw hst hd (K p e s m args below meth c X hr9 hk9)
theorem wp_min {idx : Nat} {x y : Int32} (hl : Cond.methodLink Y.1.cls idx Lib.Math.min.name ∈ gtbl) (hdd : 1 ≤ d) (hw : Cond.static Lib.Math.min.name ∈ gtbl ∧ Cond.initialized "java/lang/Math" ∈ gtbl ∧ Cond.code Lib.Math.min.name Lib.Math.min.code 2 (some .int) ∈ gtbl) (hst : (st.map fun v => v.category).sum ≤ 20) (hd : decode Y.2.1 pc = .ok (.invokestatic idx, 3)) (K : Wp G d Y (pc + 3) ls (.int (if y < x then y else x) :: st) M Q) : Wp G d Y pc ls (.int y :: .int x :: st) M Q := fun p e s m args below meth c X hr9 hk9 => fr_min X hl ⟨hdd, by show 40 ≤ 40 * d; omega, Nat.le_refl _, Nat.le_refl _⟩ hw hst hd (K p e s m args below meth c X hr9 hk9)
theorem wp_abs {idx : Nat} {x : Int32} (hl : Cond.methodLink Y.1.cls idx Lib.Math.abs.name ∈ gtbl) (hdd : 1 ≤ d) (hw : Cond.static Lib.Math.abs.name ∈ gtbl ∧ Cond.initialized "java/lang/Math" ∈ gtbl ∧ Cond.code Lib.Math.abs.name Lib.Math.abs.code 1 (some .int) ∈ gtbl) (hst : (st.map fun v => v.category).sum ≤ 20) (hd : decode Y.2.1 pc = .ok (.invokestatic idx, 3)) (K : Wp G d Y (pc + 3) ls (.int (if 0 ≤ x then x else 0 - x) :: st) M Q) : Wp G d Y pc ls (.int x :: st) M Q := fun p e s m args below meth c X hr9 hk9 => fr_abs X hl ⟨hdd, by show 40 ≤ 40 * d; omega, Nat.le_refl _, Nat.le_refl _⟩ hw hst hd (K p e s m args below meth c X hr9 hk9)
theorem wp_acopy {idx a b : Nat} {sp dp n : Int32} (hl : Cond.methodLink Y.1.cls idx arraycopyName ∈ gtbl) (hdd : 1 ≤ d) (hw : Cond.native arraycopyName ∈ gtbl ∧ Cond.static arraycopyName ∈ gtbl ∧ Cond.initialized "java/lang/System" ∈ gtbl) (hka : kd a = 20) (hkb : kd b = 20) (h1 : ¬ sp < 0) (h2 : ¬ dp < 0) (h3 : ¬ n < 0) (h4 : sp.toNatClampNeg + n.toNatClampNeg ≤ ln a) (h5 : dp.toNatClampNeg + n.toNatClampNeg ≤ ln b) (hst : (st.map fun v => v.category).sum ≤ 8) (hd : decode Y.2.1 pc = .ok (.invokestatic idx, 3)) (K : Wp G d Y (pc + 3) ls st (upC M a b sp.toNatClampNeg dp.toNatClampNeg n.toNatClampNeg) Q) : Wp G d Y pc ls (.int n :: .int dp :: .ref (ad G b) :: .int sp :: .ref (ad G a) :: st) M Q := fun p e s m args below meth c X hr9 hk9 => fr_acopy X hl ⟨hdd, by show 40 ≤ 40 * d; omega⟩ hw hka hkb h1 h2 h3 h4 h5 hst hd (K p e s m args below meth c X hr9 hk9)
theorem wp_mask (bs : List Bool) {ls' : LL} (hs : maskL bs ls = ls') (K : Wp G d Y pc ls' st M Q) : Wp G d Y pc ls st M Q := fun p e s m args below meth c X hr9 hk9 => fr_mask bs hs (K p e s m args below meth c X hr9 hk9)
theorem wp_callVI {a ci d1 n idx : Nat} {Y1 : MY} {As st0 : List Value} {K : Int32 → Mem → Prop} (hd : decode Y.2.1 pc = .ok (.invokevirtual idx, 3)) (hk1 : kd a = ci) (hm : CMV Y1 n ci) (hl : Cond.methodLink Y.1.cls idx Y1.1 ∈ gtbl) (hdd : d1 < d) (hn : As.length = n) (hst : (st.map fun v => v.category).sum ≤ 8) (h0 : st0 = As.reverse ++ .ref (ad G a) :: st) (hC : WpM G d1 Y1 (.ref (ad G a) :: As) M (RI K)) (hK : ∀ r M', K r M' → Wp G d Y (pc + 3) ls (.int r :: st) M' Q) : Wp G d Y pc ls st0 M Q := fun p e s m args below meth c X hr9 hk9 => fr_callV X hd hk1 hm hl ⟨by show d1 + 1 ≤ d; omega, by show 40 * (d1 + 1) ≤ 40 * d; omega, Nat.le_refl _, Nat.le_refl _⟩ hn hst h0 rfl hC (fun v M' h => by obtain ⟨r, rfl, h⟩ := h; exact hK r M' h p e s m args below meth c X hr9 hk9)
theorem wp_callVL {a ci d1 n idx : Nat} {Y1 : MY} {As st0 : List Value} {K : Int64 → Mem → Prop} (hd : decode Y.2.1 pc = .ok (.invokevirtual idx, 3)) (hk1 : kd a = ci) (hm : CMV Y1 n ci) (hl : Cond.methodLink Y.1.cls idx Y1.1 ∈ gtbl) (hdd : d1 < d) (hn : As.length = n) (hst : (st.map fun v => v.category).sum ≤ 8) (h0 : st0 = As.reverse ++ .ref (ad G a) :: st) (hC : WpM G d1 Y1 (.ref (ad G a) :: As) M (RJ K)) (hK : ∀ r M', K r M' → Wp G d Y (pc + 3) ls (.long r :: st) M' Q) : Wp G d Y pc ls st0 M Q := fun p e s m args below meth c X hr9 hk9 => fr_callV X hd hk1 hm hl ⟨by show d1 + 1 ≤ d; omega, by show 40 * (d1 + 1) ≤ 40 * d; omega, Nat.le_refl _, Nat.le_refl _⟩ hn hst h0 rfl hC (fun v M' h => by obtain ⟨r, rfl, h⟩ := h; exact hK r M' h p e s m args below meth c X hr9 hk9)
theorem wp_callVV {a ci d1 n idx : Nat} {Y1 : MY} {As st0 : List Value} {K : Mem → Prop} (hd : decode Y.2.1 pc = .ok (.invokevirtual idx, 3)) (hk1 : kd a = ci) (hm : CMV Y1 n ci) (hl : Cond.methodLink Y.1.cls idx Y1.1 ∈ gtbl) (hdd : d1 < d) (hn : As.length = n) (hst : (st.map fun v => v.category).sum ≤ 8) (h0 : st0 = As.reverse ++ .ref (ad G a) :: st) (hC : WpM G d1 Y1 (.ref (ad G a) :: As) M (RV K)) (hK : ∀ M', K M' → Wp G d Y (pc + 3) ls st M' Q) : Wp G d Y pc ls st0 M Q := fun p e s m args below meth c X hr9 hk9 => fr_callV X hd hk1 hm hl ⟨by show d1 + 1 ≤ d; omega, by show 40 * (d1 + 1) ≤ 40 * d; omega, Nat.le_refl _, Nat.le_refl _⟩ hn hst h0 rfl hC (fun v M' h => by obtain ⟨rfl, h⟩ := h; exact hK M' h p e s m args below meth c X hr9 hk9)
theorem wp_callSI {d1 n idx : Nat} {Y1 : MY} {As st0 : List Value} {K : Int32 → Mem → Prop} (hd : decode Y.2.1 pc = .ok (.invokestatic idx, 3)) (hm : CMS Y1 n) (hl : Cond.methodLink Y.1.cls idx Y1.1 ∈ gtbl) (hdd : d1 < d) (hn : As.length = n) (hst : (st.map fun v => v.category).sum ≤ 8) (h0 : st0 = As.reverse ++ st) (hC : WpM G d1 Y1 As M (RI K)) (hK : ∀ r M', K r M' → Wp G d Y (pc + 3) ls (.int r :: st) M' Q) : Wp G d Y pc ls st0 M Q := fun p e s m args below meth c X hr9 hk9 => fr_callS X hd hm hl ⟨by show d1 + 1 ≤ d; omega, by show 40 * (d1 + 1) ≤ 40 * d; omega, Nat.le_refl _, Nat.le_refl _⟩ hn hst h0 rfl hC (fun v M' h => by obtain ⟨r, rfl, h⟩ := h; exact hK r M' h p e s m args below meth c X hr9 hk9)
theorem wp_callSL {d1 n idx : Nat} {Y1 : MY} {As st0 : List Value} {K : Int64 → Mem → Prop} (hd : decode Y.2.1 pc = .ok (.invokestatic idx, 3)) (hm : CMS Y1 n) (hl : Cond.methodLink Y.1.cls idx Y1.1 ∈ gtbl) (hdd : d1 < d) (hn : As.length = n) (hst : (st.map fun v => v.category).sum ≤ 8) (h0 : st0 = As.reverse ++ st) (hC : WpM G d1 Y1 As M (RJ K)) (hK : ∀ r M', K r M' → Wp G d Y (pc + 3) ls (.long r :: st) M' Q) : Wp G d Y pc ls st0 M Q := fun p e s m args below meth c X hr9 hk9 => fr_callS X hd hm hl ⟨by show d1 + 1 ≤ d; omega, by show 40 * (d1 + 1) ≤ 40 * d; omega, Nat.le_refl _, Nat.le_refl _⟩ hn hst h0 rfl hC (fun v M' h => by obtain ⟨r, rfl, h⟩ := h; exact hK r M' h p e s m args below meth c X hr9 hk9)
theorem wp_callSV {d1 n idx : Nat} {Y1 : MY} {As st0 : List Value} {K : Mem → Prop} (hd : decode Y.2.1 pc = .ok (.invokestatic idx, 3)) (hm : CMS Y1 n) (hl : Cond.methodLink Y.1.cls idx Y1.1 ∈ gtbl) (hdd : d1 < d) (hn : As.length = n) (hst : (st.map fun v => v.category).sum ≤ 8) (h0 : st0 = As.reverse ++ st) (hC : WpM G d1 Y1 As M (RV K)) (hK : ∀ M', K M' → Wp G d Y (pc + 3) ls st M' Q) : Wp G d Y pc ls st0 M Q := fun p e s m args below meth c X hr9 hk9 => fr_callS X hd hm hl ⟨by show d1 + 1 ≤ d; omega, by show 40 * (d1 + 1) ≤ 40 * d; omega, Nat.le_refl _, Nat.le_refl _⟩ hn hst h0 rfl hC (fun v M' h => by obtain ⟨rfl, h⟩ := h; exact hK M' h p e s m args below meth c X hr9 hk9)
end WP
end
section
/-! fields and methods: what a call or an access needs of the tables -/
theorem vp_lt {i : Int32} {n : Nat} (h : vp_in i n) : i.toNatClampNeg < n := Nat.not_le.mp fun q => h (Or.inr q)
theorem inX0 : ∀ w ∈ u_ws RX0 TX0 7, w ∈ gtbl := List.forall_mem_cons.mpr ⟨m_1_210, List.forall_mem_cons.mpr ⟨m_1_212, List.forall_mem_cons.mpr ⟨m_1_214, List.forall_mem_cons.mpr ⟨m_1_216, List.forall_mem_cons.mpr ⟨m_1_218, List.forall_mem_cons.mpr ⟨m_1_220, List.forall_mem_cons.mpr ⟨m_1_222, fun w h => absurd h List.not_mem_nil⟩⟩⟩⟩⟩⟩⟩
theorem fb_0_0 : FB 0 0 2 "DrawerGloves$Calendar" "worn" "LDrawerGloves$Drawer;" := ⟨_, _, _, rfl, inX0, by decide, rfl, rfl, rfl, rfl, by decide⟩
theorem fb_0_1 : FB 0 1 2 "DrawerGloves$Calendar" "codes" "[I" := ⟨_, _, _, rfl, inX0, by decide, rfl, rfl, rfl, rfl, by decide⟩
theorem fb_0_2 : FB 0 2 2 "DrawerGloves$Calendar" "way" "[I" := ⟨_, _, _, rfl, inX0, by decide, rfl, rfl, rfl, rfl, by decide⟩
theorem fb_0_3 : FB 0 3 2 "DrawerGloves$Calendar" "bestWay" "[I" := ⟨_, _, _, rfl, inX0, by decide, rfl, rfl, rfl, rfl, by decide⟩
theorem fb_0_4 : FB 0 4 0 "DrawerGloves$Calendar" "size" "I" := ⟨_, _, _, rfl, inX0, by decide, rfl, rfl, rfl, rfl, by decide⟩
theorem fp_0_4 : FP 0 4 0 "DrawerGloves$Calendar" "size" "I" := ⟨_, _, _, tyX0, rfl, inX0, by decide, rfl, rfl, rfl, rfl, by decide, tyX0_ok, nmX0, rfl, by decide +kernel, rfl⟩
theorem fb_0_5 : FB 0 5 0 "DrawerGloves$Calendar" "dearest" "I" := ⟨_, _, _, rfl, inX0, by decide, rfl, rfl, rfl, rfl, by decide⟩
theorem fp_0_5 : FP 0 5 0 "DrawerGloves$Calendar" "dearest" "I" := ⟨_, _, _, tyX0, rfl, inX0, by decide, rfl, rfl, rfl, rfl, by decide, tyX0_ok, nmX0, rfl, by decide +kernel, rfl⟩
theorem fb_0_6 : FB 0 6 0 "DrawerGloves$Calendar" "best" "I" := ⟨_, _, _, rfl, inX0, by decide, rfl, rfl, rfl, rfl, by decide⟩
theorem fp_0_6 : FP 0 6 0 "DrawerGloves$Calendar" "best" "I" := ⟨_, _, _, tyX0, rfl, inX0, by decide, rfl, rfl, rfl, rfl, by decide, tyX0_ok, nmX0, rfl, by decide +kernel, rfl⟩
theorem inX1 : ∀ w ∈ u_ws RX1 TX1 3, w ∈ gtbl := List.forall_mem_cons.mpr ⟨m_2_24, List.forall_mem_cons.mpr ⟨m_2_26, List.forall_mem_cons.mpr ⟨m_2_28, fun w h => absurd h List.not_mem_nil⟩⟩⟩
theorem fb_1_0 : FB 1 0 2 "DrawerGloves$Chances" "loss" "[I" := ⟨_, _, _, rfl, inX1, by decide, rfl, rfl, rfl, rfl, by decide⟩
theorem fb_1_1 : FB 1 1 1 "DrawerGloves$Chances" "upper" "J" := ⟨_, _, _, rfl, inX1, by decide, rfl, rfl, rfl, rfl, by decide⟩
theorem fp_1_1 : FP 1 1 1 "DrawerGloves$Chances" "upper" "J" := ⟨_, _, _, tyX1, rfl, inX1, by decide, rfl, rfl, rfl, rfl, by decide, tyX1_ok, nmX1, rfl, by decide +kernel, rfl⟩
theorem fb_1_2 : FB 1 2 1 "DrawerGloves$Chances" "lower" "J" := ⟨_, _, _, rfl, inX1, by decide, rfl, rfl, rfl, rfl, by decide⟩
theorem fp_1_2 : FP 1 2 1 "DrawerGloves$Chances" "lower" "J" := ⟨_, _, _, tyX1, rfl, inX1, by decide, rfl, rfl, rfl, rfl, by decide, tyX1_ok, nmX1, rfl, by decide +kernel, rfl⟩
theorem inX2 : ∀ w ∈ u_ws RX2 TX2 2, w ∈ gtbl := List.forall_mem_cons.mpr ⟨m_1_99, List.forall_mem_cons.mpr ⟨m_1_101, fun w h => absurd h List.not_mem_nil⟩⟩
theorem fb_2_0 : FB 2 0 2 "DrawerGloves$Deeds" "codes" "[I" := ⟨_, _, _, rfl, inX2, by decide, rfl, rfl, rfl, rfl, by decide⟩
theorem fb_2_1 : FB 2 1 0 "DrawerGloves$Deeds" "size" "I" := ⟨_, _, _, rfl, inX2, by decide, rfl, rfl, rfl, rfl, by decide⟩
theorem fp_2_1 : FP 2 1 0 "DrawerGloves$Deeds" "size" "I" := ⟨_, _, _, tyX2, rfl, inX2, by decide, rfl, rfl, rfl, rfl, by decide, tyX2_ok, nmX2, rfl, by decide +kernel, rfl⟩
theorem inX3 : ∀ w ∈ u_ws RX3 TX3 4, w ∈ gtbl := List.forall_mem_cons.mpr ⟨m_1_160, List.forall_mem_cons.mpr ⟨m_1_162, List.forall_mem_cons.mpr ⟨m_1_164, List.forall_mem_cons.mpr ⟨m_1_166, fun w h => absurd h List.not_mem_nil⟩⟩⟩⟩
theorem fb_3_0 : FB 3 0 2 "DrawerGloves$Drawer" "gloves" "[LDrawerGloves$Glove;" := ⟨_, _, _, rfl, inX3, by decide, rfl, rfl, rfl, rfl, by decide⟩
theorem fb_3_1 : FB 3 1 2 "DrawerGloves$Drawer" "deeds" "LDrawerGloves$Deeds;" := ⟨_, _, _, rfl, inX3, by decide, rfl, rfl, rfl, rfl, by decide⟩
theorem fb_3_2 : FB 3 2 0 "DrawerGloves$Drawer" "size" "I" := ⟨_, _, _, rfl, inX3, by decide, rfl, rfl, rfl, rfl, by decide⟩
theorem fp_3_2 : FP 3 2 0 "DrawerGloves$Drawer" "size" "I" := ⟨_, _, _, tyX3, rfl, inX3, by decide, rfl, rfl, rfl, rfl, by decide, tyX3_ok, nmX3, rfl, by decide +kernel, rfl⟩
theorem fb_3_3 : FB 3 3 0 "DrawerGloves$Drawer" "room" "I" := ⟨_, _, _, rfl, inX3, by decide, rfl, rfl, rfl, rfl, by decide⟩
theorem fp_3_3 : FP 3 3 0 "DrawerGloves$Drawer" "room" "I" := ⟨_, _, _, tyX3, rfl, inX3, by decide, rfl, rfl, rfl, rfl, by decide, tyX3_ok, nmX3, rfl, by decide +kernel, rfl⟩
theorem inX4 : ∀ w ∈ u_ws RX4 TX4 6, w ∈ gtbl := List.forall_mem_cons.mpr ⟨m_1_130, List.forall_mem_cons.mpr ⟨m_1_132, List.forall_mem_cons.mpr ⟨m_1_134, List.forall_mem_cons.mpr ⟨m_1_136, List.forall_mem_cons.mpr ⟨m_1_138, List.forall_mem_cons.mpr ⟨m_1_140, fun w h => absurd h List.not_mem_nil⟩⟩⟩⟩⟩⟩
theorem fb_4_0 : FB 4 0 0 "DrawerGloves$Glove" "kind" "I" := ⟨_, _, _, rfl, inX4, by decide, rfl, rfl, rfl, rfl, by decide⟩
theorem fp_4_0 : FP 4 0 0 "DrawerGloves$Glove" "kind" "I" := ⟨_, _, _, tyX4, rfl, inX4, by decide, rfl, rfl, rfl, rfl, by decide, tyX4_ok, nmX4, rfl, by decide +kernel, rfl⟩
theorem fb_4_1 : FB 4 1 0 "DrawerGloves$Glove" "sort" "I" := ⟨_, _, _, rfl, inX4, by decide, rfl, rfl, rfl, rfl, by decide⟩
theorem fp_4_1 : FP 4 1 0 "DrawerGloves$Glove" "sort" "I" := ⟨_, _, _, tyX4, rfl, inX4, by decide, rfl, rfl, rfl, rfl, by decide, tyX4_ok, nmX4, rfl, by decide +kernel, rfl⟩
theorem fb_4_2 : FB 4 2 0 "DrawerGloves$Glove" "hand" "I" := ⟨_, _, _, rfl, inX4, by decide, rfl, rfl, rfl, rfl, by decide⟩
theorem fp_4_2 : FP 4 2 0 "DrawerGloves$Glove" "hand" "I" := ⟨_, _, _, tyX4, rfl, inX4, by decide, rfl, rfl, rfl, rfl, by decide, tyX4_ok, nmX4, rfl, by decide +kernel, rfl⟩
theorem fb_4_3 : FB 4 3 0 "DrawerGloves$Glove" "warm" "I" := ⟨_, _, _, rfl, inX4, by decide, rfl, rfl, rfl, rfl, by decide⟩
theorem fp_4_3 : FP 4 3 0 "DrawerGloves$Glove" "warm" "I" := ⟨_, _, _, tyX4, rfl, inX4, by decide, rfl, rfl, rfl, rfl, by decide, tyX4_ok, nmX4, rfl, by decide +kernel, rfl⟩
theorem fb_4_4 : FB 4 4 0 "DrawerGloves$Glove" "wear" "I" := ⟨_, _, _, rfl, inX4, by decide, rfl, rfl, rfl, rfl, by decide⟩
theorem fp_4_4 : FP 4 4 0 "DrawerGloves$Glove" "wear" "I" := ⟨_, _, _, tyX4, rfl, inX4, by decide, rfl, rfl, rfl, rfl, by decide, tyX4_ok, nmX4, rfl, by decide +kernel, rfl⟩
theorem fb_4_5 : FB 4 5 0 "DrawerGloves$Glove" "where" "I" := ⟨_, _, _, rfl, inX4, by decide, rfl, rfl, rfl, rfl, by decide⟩
theorem fp_4_5 : FP 4 5 0 "DrawerGloves$Glove" "where" "I" := ⟨_, _, _, tyX4, rfl, inX4, by decide, rfl, rfl, rfl, rfl, by decide, tyX4_ok, nmX4, rfl, by decide +kernel, rfl⟩
theorem inX5 : ∀ w ∈ u_ws RX5 TX5 2, w ∈ gtbl := List.forall_mem_cons.mpr ⟨m_1_235, List.forall_mem_cons.mpr ⟨m_1_237, fun w h => absurd h List.not_mem_nil⟩⟩
theorem fb_5_0 : FB 5 0 2 "DrawerGloves$Guess" "maybe" "LDrawerGloves$Glove;" := ⟨_, _, _, rfl, inX5, by decide, rfl, rfl, rfl, rfl, by decide⟩
theorem fb_5_1 : FB 5 1 2 "DrawerGloves$Guess" "outcome" "[I" := ⟨_, _, _, rfl, inX5, by decide, rfl, rfl, rfl, rfl, by decide⟩
theorem inX6 : ∀ w ∈ u_ws RX6 TX6 4, w ∈ gtbl := List.forall_mem_cons.mpr ⟨m_1_186, List.forall_mem_cons.mpr ⟨m_1_188, List.forall_mem_cons.mpr ⟨m_1_190, List.forall_mem_cons.mpr ⟨m_1_192, fun w h => absurd h List.not_mem_nil⟩⟩⟩⟩
theorem fb_6_0 : FB 6 0 2 "DrawerGloves$Makings" "worth" "[I" := ⟨_, _, _, rfl, inX6, by decide, rfl, rfl, rfl, rfl, by decide⟩
theorem fb_6_1 : FB 6 1 2 "DrawerGloves$Makings" "best" "[I" := ⟨_, _, _, rfl, inX6, by decide, rfl, rfl, rfl, rfl, by decide⟩
theorem fb_6_2 : FB 6 2 2 "DrawerGloves$Makings" "most" "[I" := ⟨_, _, _, rfl, inX6, by decide, rfl, rfl, rfl, rfl, by decide⟩
theorem fb_6_3 : FB 6 3 2 "DrawerGloves$Makings" "enough" "[I" := ⟨_, _, _, rfl, inX6, by decide, rfl, rfl, rfl, rfl, by decide⟩
theorem inX7 : ∀ w ∈ u_ws RX7 TX7 6, w ∈ gtbl := List.forall_mem_cons.mpr ⟨m_1_67, List.forall_mem_cons.mpr ⟨m_1_69, List.forall_mem_cons.mpr ⟨m_1_71, List.forall_mem_cons.mpr ⟨m_1_73, List.forall_mem_cons.mpr ⟨m_1_75, List.forall_mem_cons.mpr ⟨m_1_77, fun w h => absurd h List.not_mem_nil⟩⟩⟩⟩⟩⟩
theorem fb_7_0 : FB 7 0 2 "DrawerGloves$Reading" "kind" "[I" := ⟨_, _, _, rfl, inX7, by decide, rfl, rfl, rfl, rfl, by decide⟩
theorem fb_7_1 : FB 7 1 2 "DrawerGloves$Reading" "sort" "[I" := ⟨_, _, _, rfl, inX7, by decide, rfl, rfl, rfl, rfl, by decide⟩
theorem fb_7_2 : FB 7 2 2 "DrawerGloves$Reading" "hand" "[I" := ⟨_, _, _, rfl, inX7, by decide, rfl, rfl, rfl, rfl, by decide⟩
theorem fb_7_3 : FB 7 3 2 "DrawerGloves$Reading" "warm" "[I" := ⟨_, _, _, rfl, inX7, by decide, rfl, rfl, rfl, rfl, by decide⟩
theorem fb_7_4 : FB 7 4 0 "DrawerGloves$Reading" "size" "I" := ⟨_, _, _, rfl, inX7, by decide, rfl, rfl, rfl, rfl, by decide⟩
theorem fp_7_4 : FP 7 4 0 "DrawerGloves$Reading" "size" "I" := ⟨_, _, _, tyX7, rfl, inX7, by decide, rfl, rfl, rfl, rfl, by decide, tyX7_ok, nmX7, rfl, by decide +kernel, rfl⟩
theorem fb_7_5 : FB 7 5 0 "DrawerGloves$Reading" "room" "I" := ⟨_, _, _, rfl, inX7, by decide, rfl, rfl, rfl, rfl, by decide⟩
theorem fp_7_5 : FP 7 5 0 "DrawerGloves$Reading" "room" "I" := ⟨_, _, _, tyX7, rfl, inX7, by decide, rfl, rfl, rfl, rfl, by decide, tyX7_ok, nmX7, rfl, by decide +kernel, rfl⟩
theorem inX8 : ∀ w ∈ u_ws RX8 TX8 2, w ∈ gtbl := List.forall_mem_cons.mpr ⟨m_2_8, List.forall_mem_cons.mpr ⟨m_2_10, fun w h => absurd h List.not_mem_nil⟩⟩
theorem fb_8_0 : FB 8 0 2 "DrawerGloves$Rivals" "known" "[I" := ⟨_, _, _, rfl, inX8, by decide, rfl, rfl, rfl, rfl, by decide⟩
theorem fb_8_1 : FB 8 1 2 "DrawerGloves$Rivals" "inThrees" "[I" := ⟨_, _, _, rfl, inX8, by decide, rfl, rfl, rfl, rfl, by decide⟩
theorem inX9 : ∀ w ∈ u_ws RX9 TX9 4, w ∈ gtbl := List.forall_mem_cons.mpr ⟨m_1_39, List.forall_mem_cons.mpr ⟨m_1_41, List.forall_mem_cons.mpr ⟨m_1_43, List.forall_mem_cons.mpr ⟨m_1_45, fun w h => absurd h List.not_mem_nil⟩⟩⟩⟩
theorem fb_9_0 : FB 9 0 2 "DrawerGloves$Rows" "places" "[[I" := ⟨_, _, _, rfl, inX9, by decide, rfl, rfl, rfl, rfl, by decide⟩
theorem fb_9_1 : FB 9 1 2 "DrawerGloves$Rows" "sizes" "[I" := ⟨_, _, _, rfl, inX9, by decide, rfl, rfl, rfl, rfl, by decide⟩
theorem fb_9_2 : FB 9 2 0 "DrawerGloves$Rows" "mostPlaces" "I" := ⟨_, _, _, rfl, inX9, by decide, rfl, rfl, rfl, rfl, by decide⟩
theorem fb_9_3 : FB 9 3 0 "DrawerGloves$Rows" "filler" "I" := ⟨_, _, _, rfl, inX9, by decide, rfl, rfl, rfl, rfl, by decide⟩
theorem inX10 : ∀ w ∈ u_ws RX10 TX10 13, w ∈ gtbl := List.forall_mem_cons.mpr ⟨m_2_44, List.forall_mem_cons.mpr ⟨m_2_46, List.forall_mem_cons.mpr ⟨m_2_48, List.forall_mem_cons.mpr ⟨m_2_50, List.forall_mem_cons.mpr ⟨m_2_52, List.forall_mem_cons.mpr ⟨m_2_54, List.forall_mem_cons.mpr ⟨m_2_56, List.forall_mem_cons.mpr ⟨m_2_58, List.forall_mem_cons.mpr ⟨m_2_60, List.forall_mem_cons.mpr ⟨m_2_62, List.forall_mem_cons.mpr ⟨m_2_64, List.forall_mem_cons.mpr ⟨m_2_66, List.forall_mem_cons.mpr ⟨m_2_68, fun w h => absurd h List.not_mem_nil⟩⟩⟩⟩⟩⟩⟩⟩⟩⟩⟩⟩⟩
theorem fb_10_0 : FB 10 0 2 "DrawerGloves" "rows" "LDrawerGloves$Rows;" := ⟨_, _, _, rfl, inX10, by decide, rfl, rfl, rfl, rfl, by decide⟩
theorem fb_10_1 : FB 10 1 2 "DrawerGloves" "texts" "LDrawerGloves$Rows;" := ⟨_, _, _, rfl, inX10, by decide, rfl, rfl, rfl, rfl, by decide⟩
theorem fb_10_2 : FB 10 2 2 "DrawerGloves" "reading" "LDrawerGloves$Reading;" := ⟨_, _, _, rfl, inX10, by decide, rfl, rfl, rfl, rfl, by decide⟩
theorem fb_10_3 : FB 10 3 2 "DrawerGloves" "chest" "LDrawerGloves$Drawer;" := ⟨_, _, _, rfl, inX10, by decide, rfl, rfl, rfl, rfl, by decide⟩
theorem fb_10_4 : FB 10 4 2 "DrawerGloves" "kept" "[LDrawerGloves$Deeds;" := ⟨_, _, _, rfl, inX10, by decide, rfl, rfl, rfl, rfl, by decide⟩
theorem fb_10_5 : FB 10 5 2 "DrawerGloves" "makings" "LDrawerGloves$Makings;" := ⟨_, _, _, rfl, inX10, by decide, rfl, rfl, rfl, rfl, by decide⟩
theorem fb_10_6 : FB 10 6 2 "DrawerGloves" "calendar" "LDrawerGloves$Calendar;" := ⟨_, _, _, rfl, inX10, by decide, rfl, rfl, rfl, rfl, by decide⟩
theorem fb_10_7 : FB 10 7 2 "DrawerGloves" "guess" "LDrawerGloves$Guess;" := ⟨_, _, _, rfl, inX10, by decide, rfl, rfl, rfl, rfl, by decide⟩
theorem fb_10_8 : FB 10 8 2 "DrawerGloves" "rivals" "LDrawerGloves$Rivals;" := ⟨_, _, _, rfl, inX10, by decide, rfl, rfl, rfl, rfl, by decide⟩
theorem fb_10_9 : FB 10 9 2 "DrawerGloves" "chances" "LDrawerGloves$Chances;" := ⟨_, _, _, rfl, inX10, by decide, rfl, rfl, rfl, rfl, by decide⟩
theorem fb_10_10 : FB 10 10 2 "DrawerGloves" "found" "[I" := ⟨_, _, _, rfl, inX10, by decide, rfl, rfl, rfl, rfl, by decide⟩
theorem fb_10_11 : FB 10 11 0 "DrawerGloves" "lastFound" "I" := ⟨_, _, _, rfl, inX10, by decide, rfl, rfl, rfl, rfl, by decide⟩
theorem fp_10_11 : FP 10 11 0 "DrawerGloves" "lastFound" "I" := ⟨_, _, _, tyX10, rfl, inX10, by decide, rfl, rfl, rfl, rfl, by decide, tyX10_ok, nmX10, rfl, by decide +kernel, rfl⟩
theorem fb_10_12 : FB 10 12 0 "DrawerGloves" "lastAsked" "I" := ⟨_, _, _, rfl, inX10, by decide, rfl, rfl, rfl, rfl, by decide⟩
theorem fp_10_12 : FP 10 12 0 "DrawerGloves" "lastAsked" "I" := ⟨_, _, _, tyX10, rfl, inX10, by decide, rfl, rfl, rfl, rfl, by decide, tyX10_ok, nmX10, rfl, by decide +kernel, rfl⟩
theorem inX11 : ∀ w ∈ u_ws RX11 TX11 36, w ∈ gtbl := List.forall_mem_cons.mpr ⟨m_4_191, List.forall_mem_cons.mpr ⟨m_4_193, List.forall_mem_cons.mpr ⟨m_4_195, List.forall_mem_cons.mpr ⟨m_4_197, List.forall_mem_cons.mpr ⟨m_4_199, List.forall_mem_cons.mpr ⟨m_4_201, List.forall_mem_cons.mpr ⟨m_4_203, List.forall_mem_cons.mpr ⟨m_4_205, List.forall_mem_cons.mpr ⟨m_4_207, List.forall_mem_cons.mpr ⟨m_4_209, List.forall_mem_cons.mpr ⟨m_4_211, List.forall_mem_cons.mpr ⟨m_4_213, List.forall_mem_cons.mpr ⟨m_4_215, List.forall_mem_cons.mpr ⟨m_4_217, List.forall_mem_cons.mpr ⟨m_4_219, List.forall_mem_cons.mpr ⟨m_4_221, List.forall_mem_cons.mpr ⟨m_4_223, List.forall_mem_cons.mpr ⟨m_4_225, List.forall_mem_cons.mpr ⟨m_4_227, List.forall_mem_cons.mpr ⟨m_4_229, List.forall_mem_cons.mpr ⟨m_4_231, List.forall_mem_cons.mpr ⟨m_4_233, List.forall_mem_cons.mpr ⟨m_4_235, List.forall_mem_cons.mpr ⟨m_4_237, List.forall_mem_cons.mpr ⟨m_4_239, List.forall_mem_cons.mpr ⟨m_5_1, List.forall_mem_cons.mpr ⟨m_5_3, List.forall_mem_cons.mpr ⟨m_5_5, List.forall_mem_cons.mpr ⟨m_5_7, List.forall_mem_cons.mpr ⟨m_5_9, List.forall_mem_cons.mpr ⟨m_5_11, List.forall_mem_cons.mpr ⟨m_5_13, List.forall_mem_cons.mpr ⟨m_5_15, List.forall_mem_cons.mpr ⟨m_5_17, List.forall_mem_cons.mpr ⟨m_5_19, List.forall_mem_cons.mpr ⟨m_5_21, fun w h => absurd h List.not_mem_nil⟩⟩⟩⟩⟩⟩⟩⟩⟩⟩⟩⟩⟩⟩⟩⟩⟩⟩⟩⟩⟩⟩⟩⟩⟩⟩⟩⟩⟩⟩⟩⟩⟩⟩⟩⟩
theorem fb_11_0 : FB 11 0 0 "DrawerGlovesModel" "asked" "I" := ⟨_, _, _, rfl, inX11, by decide, rfl, rfl, rfl, rfl, by decide⟩
theorem fp_11_0 : FP 11 0 0 "DrawerGlovesModel" "asked" "I" := ⟨_, _, _, tyX11, rfl, inX11, by decide, rfl, rfl, rfl, rfl, by decide, tyX11_ok, nmX11, rfl, by decide +kernel, rfl⟩
theorem fb_11_1 : FB 11 1 1 "DrawerGlovesModel" "up" "J" := ⟨_, _, _, rfl, inX11, by decide, rfl, rfl, rfl, rfl, by decide⟩
theorem fp_11_1 : FP 11 1 1 "DrawerGlovesModel" "up" "J" := ⟨_, _, _, tyX11, rfl, inX11, by decide, rfl, rfl, rfl, rfl, by decide, tyX11_ok, nmX11, rfl, by decide +kernel, rfl⟩
theorem fb_11_2 : FB 11 2 1 "DrawerGlovesModel" "down" "J" := ⟨_, _, _, rfl, inX11, by decide, rfl, rfl, rfl, rfl, by decide⟩
theorem fp_11_2 : FP 11 2 1 "DrawerGlovesModel" "down" "J" := ⟨_, _, _, tyX11, rfl, inX11, by decide, rfl, rfl, rfl, rfl, by decide, tyX11_ok, nmX11, rfl, by decide +kernel, rfl⟩
theorem fb_11_3 : FB 11 3 0 "DrawerGlovesModel" "latest" "I" := ⟨_, _, _, rfl, inX11, by decide, rfl, rfl, rfl, rfl, by decide⟩
theorem fp_11_3 : FP 11 3 0 "DrawerGlovesModel" "latest" "I" := ⟨_, _, _, tyX11, rfl, inX11, by decide, rfl, rfl, rfl, rfl, by decide, tyX11_ok, nmX11, rfl, by decide +kernel, rfl⟩
theorem fb_11_4 : FB 11 4 2 "DrawerGlovesModel" "found" "[I" := ⟨_, _, _, rfl, inX11, by decide, rfl, rfl, rfl, rfl, by decide⟩
theorem fb_11_5 : FB 11 5 2 "DrawerGlovesModel" "cells" "[I" := ⟨_, _, _, rfl, inX11, by decide, rfl, rfl, rfl, rfl, by decide⟩
theorem fb_11_6 : FB 11 6 2 "DrawerGlovesModel" "rowSize" "[I" := ⟨_, _, _, rfl, inX11, by decide, rfl, rfl, rfl, rfl, by decide⟩
theorem fb_11_7 : FB 11 7 2 "DrawerGlovesModel" "bytes" "[B" := ⟨_, _, _, rfl, inX11, by decide, rfl, rfl, rfl, rfl, by decide⟩
theorem fb_11_8 : FB 11 8 2 "DrawerGlovesModel" "textSize" "[I" := ⟨_, _, _, rfl, inX11, by decide, rfl, rfl, rfl, rfl, by decide⟩
theorem fb_11_9 : FB 11 9 2 "DrawerGlovesModel" "taken" "[I" := ⟨_, _, _, rfl, inX11, by decide, rfl, rfl, rfl, rfl, by decide⟩
theorem fb_11_10 : FB 11 10 0 "DrawerGlovesModel" "draftRoom" "I" := ⟨_, _, _, rfl, inX11, by decide, rfl, rfl, rfl, rfl, by decide⟩
theorem fp_11_10 : FP 11 10 0 "DrawerGlovesModel" "draftRoom" "I" := ⟨_, _, _, tyX11, rfl, inX11, by decide, rfl, rfl, rfl, rfl, by decide, tyX11_ok, nmX11, rfl, by decide +kernel, rfl⟩
theorem fb_11_11 : FB 11 11 0 "DrawerGlovesModel" "draftGloves" "I" := ⟨_, _, _, rfl, inX11, by decide, rfl, rfl, rfl, rfl, by decide⟩
theorem fp_11_11 : FP 11 11 0 "DrawerGlovesModel" "draftGloves" "I" := ⟨_, _, _, tyX11, rfl, inX11, by decide, rfl, rfl, rfl, rfl, by decide, tyX11_ok, nmX11, rfl, by decide +kernel, rfl⟩
theorem fb_11_12 : FB 11 12 2 "DrawerGlovesModel" "draftKind" "[I" := ⟨_, _, _, rfl, inX11, by decide, rfl, rfl, rfl, rfl, by decide⟩
theorem fb_11_13 : FB 11 13 2 "DrawerGlovesModel" "draftSort" "[I" := ⟨_, _, _, rfl, inX11, by decide, rfl, rfl, rfl, rfl, by decide⟩
theorem fb_11_14 : FB 11 14 2 "DrawerGlovesModel" "draftHand" "[I" := ⟨_, _, _, rfl, inX11, by decide, rfl, rfl, rfl, rfl, by decide⟩
theorem fb_11_15 : FB 11 15 2 "DrawerGlovesModel" "draftWarm" "[I" := ⟨_, _, _, rfl, inX11, by decide, rfl, rfl, rfl, rfl, by decide⟩
theorem fb_11_16 : FB 11 16 0 "DrawerGlovesModel" "reading" "I" := ⟨_, _, _, rfl, inX11, by decide, rfl, rfl, rfl, rfl, by decide⟩
theorem fp_11_16 : FP 11 16 0 "DrawerGlovesModel" "reading" "I" := ⟨_, _, _, tyX11, rfl, inX11, by decide, rfl, rfl, rfl, rfl, by decide, tyX11_ok, nmX11, rfl, by decide +kernel, rfl⟩
theorem fb_11_17 : FB 11 17 0 "DrawerGlovesModel" "place" "I" := ⟨_, _, _, rfl, inX11, by decide, rfl, rfl, rfl, rfl, by decide⟩
theorem fp_11_17 : FP 11 17 0 "DrawerGlovesModel" "place" "I" := ⟨_, _, _, tyX11, rfl, inX11, by decide, rfl, rfl, rfl, rfl, by decide, tyX11_ok, nmX11, rfl, by decide +kernel, rfl⟩
theorem fb_11_18 : FB 11 18 0 "DrawerGlovesModel" "fault" "I" := ⟨_, _, _, rfl, inX11, by decide, rfl, rfl, rfl, rfl, by decide⟩
theorem fp_11_18 : FP 11 18 0 "DrawerGlovesModel" "fault" "I" := ⟨_, _, _, tyX11, rfl, inX11, by decide, rfl, rfl, rfl, rfl, by decide, tyX11_ok, nmX11, rfl, by decide +kernel, rfl⟩
theorem fb_11_19 : FB 11 19 0 "DrawerGlovesModel" "room" "I" := ⟨_, _, _, rfl, inX11, by decide, rfl, rfl, rfl, rfl, by decide⟩
theorem fp_11_19 : FP 11 19 0 "DrawerGlovesModel" "room" "I" := ⟨_, _, _, tyX11, rfl, inX11, by decide, rfl, rfl, rfl, rfl, by decide, tyX11_ok, nmX11, rfl, by decide +kernel, rfl⟩
theorem fb_11_20 : FB 11 20 0 "DrawerGlovesModel" "gloves" "I" := ⟨_, _, _, rfl, inX11, by decide, rfl, rfl, rfl, rfl, by decide⟩
theorem fp_11_20 : FP 11 20 0 "DrawerGlovesModel" "gloves" "I" := ⟨_, _, _, tyX11, rfl, inX11, by decide, rfl, rfl, rfl, rfl, by decide, tyX11_ok, nmX11, rfl, by decide +kernel, rfl⟩
theorem fb_11_21 : FB 11 21 2 "DrawerGlovesModel" "kind" "[I" := ⟨_, _, _, rfl, inX11, by decide, rfl, rfl, rfl, rfl, by decide⟩
theorem fb_11_22 : FB 11 22 2 "DrawerGlovesModel" "sort" "[I" := ⟨_, _, _, rfl, inX11, by decide, rfl, rfl, rfl, rfl, by decide⟩
theorem fb_11_23 : FB 11 23 2 "DrawerGlovesModel" "hand" "[I" := ⟨_, _, _, rfl, inX11, by decide, rfl, rfl, rfl, rfl, by decide⟩
theorem fb_11_24 : FB 11 24 2 "DrawerGlovesModel" "warm" "[I" := ⟨_, _, _, rfl, inX11, by decide, rfl, rfl, rfl, rfl, by decide⟩
theorem fb_11_25 : FB 11 25 2 "DrawerGlovesModel" "where" "[I" := ⟨_, _, _, rfl, inX11, by decide, rfl, rfl, rfl, rfl, by decide⟩
theorem fb_11_26 : FB 11 26 2 "DrawerGlovesModel" "worn" "[I" := ⟨_, _, _, rfl, inX11, by decide, rfl, rfl, rfl, rfl, by decide⟩
theorem fb_11_27 : FB 11 27 0 "DrawerGlovesModel" "deeds" "I" := ⟨_, _, _, rfl, inX11, by decide, rfl, rfl, rfl, rfl, by decide⟩
theorem fp_11_27 : FP 11 27 0 "DrawerGlovesModel" "deeds" "I" := ⟨_, _, _, tyX11, rfl, inX11, by decide, rfl, rfl, rfl, rfl, by decide, tyX11_ok, nmX11, rfl, by decide +kernel, rfl⟩
theorem fb_11_28 : FB 11 28 2 "DrawerGlovesModel" "deed" "[I" := ⟨_, _, _, rfl, inX11, by decide, rfl, rfl, rfl, rfl, by decide⟩
theorem fb_11_29 : FB 11 29 2 "DrawerGlovesModel" "keptDeeds" "[I" := ⟨_, _, _, rfl, inX11, by decide, rfl, rfl, rfl, rfl, by decide⟩
theorem fb_11_30 : FB 11 30 2 "DrawerGlovesModel" "keptDeed" "[I" := ⟨_, _, _, rfl, inX11, by decide, rfl, rfl, rfl, rfl, by decide⟩
theorem fb_11_31 : FB 11 31 2 "DrawerGlovesModel" "best" "[I" := ⟨_, _, _, rfl, inX11, by decide, rfl, rfl, rfl, rfl, by decide⟩
theorem fb_11_32 : FB 11 32 2 "DrawerGlovesModel" "most" "[I" := ⟨_, _, _, rfl, inX11, by decide, rfl, rfl, rfl, rfl, by decide⟩
theorem fb_11_33 : FB 11 33 2 "DrawerGlovesModel" "twos" "[I" := ⟨_, _, _, rfl, inX11, by decide, rfl, rfl, rfl, rfl, by decide⟩
theorem fb_11_34 : FB 11 34 0 "DrawerGlovesModel" "many" "I" := ⟨_, _, _, rfl, inX11, by decide, rfl, rfl, rfl, rfl, by decide⟩
theorem fp_11_34 : FP 11 34 0 "DrawerGlovesModel" "many" "I" := ⟨_, _, _, tyX11, rfl, inX11, by decide, rfl, rfl, rfl, rfl, by decide, tyX11_ok, nmX11, rfl, by decide +kernel, rfl⟩
theorem fb_11_35 : FB 11 35 2 "DrawerGlovesModel" "worth" "[I" := ⟨_, _, _, rfl, inX11, by decide, rfl, rfl, rfl, rfl, by decide⟩
theorem kd_cases (p : Nat → Bool) (h : (List.range nT).all p = true) (h99 : ∀ a, nT ≤ a → p a = true) (a : Nat) : p a = true := by
  rcases Nat.lt_or_ge a nT with q | q
  · exact List.all_eq_true.mp h a (List.mem_range.mpr q)
  · exact h99 a q
theorem kd_big {a : Nat} (h : nT ≤ a) : kd a = 99 := by
  unfold kd
  rw [List.getD_eq_getElem?_getD, List.getElem?_eq_none (show kdL.length ≤ a from h)]
  rfl
theorem kdf_0_0 {a : Nat} (h : kd a = 0) : kd (rf a 0) = 3 := by
  have h2 := kd_cases (fun a => (kd a != 0) || (kd (rf a 0) == 3)) (by decide +kernel) (fun a q => by simp [kd_big q]) a
  simp only [h, bne_self_eq_false, Bool.false_or, beq_iff_eq] at h2
  exact h2
theorem kdf_0_1 {a : Nat} (h : kd a = 0) : kd (rf a 1) = 20 := by
  have h2 := kd_cases (fun a => (kd a != 0) || (kd (rf a 1) == 20)) (by decide +kernel) (fun a q => by simp [kd_big q]) a
  simp only [h, bne_self_eq_false, Bool.false_or, beq_iff_eq] at h2
  exact h2
theorem lnf_0_1 {a : Nat} (h : kd a = 0) : ln (rf a 1) = 64 := by
  have h2 := kd_cases (fun a => (kd a != 0) || (ln (rf a 1) == 64)) (by decide +kernel) (fun a q => by simp [kd_big q]) a
  simp only [h, bne_self_eq_false, Bool.false_or, beq_iff_eq] at h2
  exact h2
theorem kdf_0_2 {a : Nat} (h : kd a = 0) : kd (rf a 2) = 20 := by
  have h2 := kd_cases (fun a => (kd a != 0) || (kd (rf a 2) == 20)) (by decide +kernel) (fun a q => by simp [kd_big q]) a
  simp only [h, bne_self_eq_false, Bool.false_or, beq_iff_eq] at h2
  exact h2
theorem lnf_0_2 {a : Nat} (h : kd a = 0) : ln (rf a 2) = 3 := by
  have h2 := kd_cases (fun a => (kd a != 0) || (ln (rf a 2) == 3)) (by decide +kernel) (fun a q => by simp [kd_big q]) a
  simp only [h, bne_self_eq_false, Bool.false_or, beq_iff_eq] at h2
  exact h2
theorem kdf_0_3 {a : Nat} (h : kd a = 0) : kd (rf a 3) = 20 := by
  have h2 := kd_cases (fun a => (kd a != 0) || (kd (rf a 3) == 20)) (by decide +kernel) (fun a q => by simp [kd_big q]) a
  simp only [h, bne_self_eq_false, Bool.false_or, beq_iff_eq] at h2
  exact h2
theorem lnf_0_3 {a : Nat} (h : kd a = 0) : ln (rf a 3) = 3 := by
  have h2 := kd_cases (fun a => (kd a != 0) || (ln (rf a 3) == 3)) (by decide +kernel) (fun a q => by simp [kd_big q]) a
  simp only [h, bne_self_eq_false, Bool.false_or, beq_iff_eq] at h2
  exact h2
theorem kdf_1_0 {a : Nat} (h : kd a = 1) : kd (rf a 0) = 20 := by
  have h2 := kd_cases (fun a => (kd a != 1) || (kd (rf a 0) == 20)) (by decide +kernel) (fun a q => by simp [kd_big q]) a
  simp only [h, bne_self_eq_false, Bool.false_or, beq_iff_eq] at h2
  exact h2
theorem lnf_1_0 {a : Nat} (h : kd a = 1) : ln (rf a 0) = 8 := by
  have h2 := kd_cases (fun a => (kd a != 1) || (ln (rf a 0) == 8)) (by decide +kernel) (fun a q => by simp [kd_big q]) a
  simp only [h, bne_self_eq_false, Bool.false_or, beq_iff_eq] at h2
  exact h2
theorem kdf_2_0 {a : Nat} (h : kd a = 2) : kd (rf a 0) = 20 := by
  have h2 := kd_cases (fun a => (kd a != 2) || (kd (rf a 0) == 20)) (by decide +kernel) (fun a q => by simp [kd_big q]) a
  simp only [h, bne_self_eq_false, Bool.false_or, beq_iff_eq] at h2
  exact h2
theorem lnf_2_0 {a : Nat} (h : kd a = 2) : ln (rf a 0) = 40 := by
  have h2 := kd_cases (fun a => (kd a != 2) || (ln (rf a 0) == 40)) (by decide +kernel) (fun a q => by simp [kd_big q]) a
  simp only [h, bne_self_eq_false, Bool.false_or, beq_iff_eq] at h2
  exact h2
theorem kdf_3_0 {a : Nat} (h : kd a = 3) : kd (rf a 0) = 23 := by
  have h2 := kd_cases (fun a => (kd a != 3) || (kd (rf a 0) == 23)) (by decide +kernel) (fun a q => by simp [kd_big q]) a
  simp only [h, bne_self_eq_false, Bool.false_or, beq_iff_eq] at h2
  exact h2
theorem lnf_3_0 {a : Nat} (h : kd a = 3) : ln (rf a 0) = 8 := by
  have h2 := kd_cases (fun a => (kd a != 3) || (ln (rf a 0) == 8)) (by decide +kernel) (fun a q => by simp [kd_big q]) a
  simp only [h, bne_self_eq_false, Bool.false_or, beq_iff_eq] at h2
  exact h2
theorem kdf_3_1 {a : Nat} (h : kd a = 3) : kd (rf a 1) = 2 := by
  have h2 := kd_cases (fun a => (kd a != 3) || (kd (rf a 1) == 2)) (by decide +kernel) (fun a q => by simp [kd_big q]) a
  simp only [h, bne_self_eq_false, Bool.false_or, beq_iff_eq] at h2
  exact h2
theorem kdf_5_0 {a : Nat} (h : kd a = 5) : kd (rf a 0) = 4 := by
  have h2 := kd_cases (fun a => (kd a != 5) || (kd (rf a 0) == 4)) (by decide +kernel) (fun a q => by simp [kd_big q]) a
  simp only [h, bne_self_eq_false, Bool.false_or, beq_iff_eq] at h2
  exact h2
theorem kdf_5_1 {a : Nat} (h : kd a = 5) : kd (rf a 1) = 20 := by
  have h2 := kd_cases (fun a => (kd a != 5) || (kd (rf a 1) == 20)) (by decide +kernel) (fun a q => by simp [kd_big q]) a
  simp only [h, bne_self_eq_false, Bool.false_or, beq_iff_eq] at h2
  exact h2
theorem lnf_5_1 {a : Nat} (h : kd a = 5) : ln (rf a 1) = 6 := by
  have h2 := kd_cases (fun a => (kd a != 5) || (ln (rf a 1) == 6)) (by decide +kernel) (fun a q => by simp [kd_big q]) a
  simp only [h, bne_self_eq_false, Bool.false_or, beq_iff_eq] at h2
  exact h2
theorem kdf_6_0 {a : Nat} (h : kd a = 6) : kd (rf a 0) = 20 := by
  have h2 := kd_cases (fun a => (kd a != 6) || (kd (rf a 0) == 20)) (by decide +kernel) (fun a q => by simp [kd_big q]) a
  simp only [h, bne_self_eq_false, Bool.false_or, beq_iff_eq] at h2
  exact h2
theorem lnf_6_0 {a : Nat} (h : kd a = 6) : ln (rf a 0) = 64 := by
  have h2 := kd_cases (fun a => (kd a != 6) || (ln (rf a 0) == 64)) (by decide +kernel) (fun a q => by simp [kd_big q]) a
  simp only [h, bne_self_eq_false, Bool.false_or, beq_iff_eq] at h2
  exact h2
theorem kdf_6_1 {a : Nat} (h : kd a = 6) : kd (rf a 1) = 20 := by
  have h2 := kd_cases (fun a => (kd a != 6) || (kd (rf a 1) == 20)) (by decide +kernel) (fun a q => by simp [kd_big q]) a
  simp only [h, bne_self_eq_false, Bool.false_or, beq_iff_eq] at h2
  exact h2
theorem lnf_6_1 {a : Nat} (h : kd a = 6) : ln (rf a 1) = 256 := by
  have h2 := kd_cases (fun a => (kd a != 6) || (ln (rf a 1) == 256)) (by decide +kernel) (fun a q => by simp [kd_big q]) a
  simp only [h, bne_self_eq_false, Bool.false_or, beq_iff_eq] at h2
  exact h2
theorem kdf_6_2 {a : Nat} (h : kd a = 6) : kd (rf a 2) = 20 := by
  have h2 := kd_cases (fun a => (kd a != 6) || (kd (rf a 2) == 20)) (by decide +kernel) (fun a q => by simp [kd_big q]) a
  simp only [h, bne_self_eq_false, Bool.false_or, beq_iff_eq] at h2
  exact h2
theorem lnf_6_2 {a : Nat} (h : kd a = 6) : ln (rf a 2) = 256 := by
  have h2 := kd_cases (fun a => (kd a != 6) || (ln (rf a 2) == 256)) (by decide +kernel) (fun a q => by simp [kd_big q]) a
  simp only [h, bne_self_eq_false, Bool.false_or, beq_iff_eq] at h2
  exact h2
theorem kdf_6_3 {a : Nat} (h : kd a = 6) : kd (rf a 3) = 20 := by
  have h2 := kd_cases (fun a => (kd a != 6) || (kd (rf a 3) == 20)) (by decide +kernel) (fun a q => by simp [kd_big q]) a
  simp only [h, bne_self_eq_false, Bool.false_or, beq_iff_eq] at h2
  exact h2
theorem lnf_6_3 {a : Nat} (h : kd a = 6) : ln (rf a 3) = 256 := by
  have h2 := kd_cases (fun a => (kd a != 6) || (ln (rf a 3) == 256)) (by decide +kernel) (fun a q => by simp [kd_big q]) a
  simp only [h, bne_self_eq_false, Bool.false_or, beq_iff_eq] at h2
  exact h2
theorem kdf_7_0 {a : Nat} (h : kd a = 7) : kd (rf a 0) = 20 := by
  have h2 := kd_cases (fun a => (kd a != 7) || (kd (rf a 0) == 20)) (by decide +kernel) (fun a q => by simp [kd_big q]) a
  simp only [h, bne_self_eq_false, Bool.false_or, beq_iff_eq] at h2
  exact h2
theorem lnf_7_0 {a : Nat} (h : kd a = 7) : ln (rf a 0) = 8 := by
  have h2 := kd_cases (fun a => (kd a != 7) || (ln (rf a 0) == 8)) (by decide +kernel) (fun a q => by simp [kd_big q]) a
  simp only [h, bne_self_eq_false, Bool.false_or, beq_iff_eq] at h2
  exact h2
theorem kdf_7_1 {a : Nat} (h : kd a = 7) : kd (rf a 1) = 20 := by
  have h2 := kd_cases (fun a => (kd a != 7) || (kd (rf a 1) == 20)) (by decide +kernel) (fun a q => by simp [kd_big q]) a
  simp only [h, bne_self_eq_false, Bool.false_or, beq_iff_eq] at h2
  exact h2
theorem lnf_7_1 {a : Nat} (h : kd a = 7) : ln (rf a 1) = 8 := by
  have h2 := kd_cases (fun a => (kd a != 7) || (ln (rf a 1) == 8)) (by decide +kernel) (fun a q => by simp [kd_big q]) a
  simp only [h, bne_self_eq_false, Bool.false_or, beq_iff_eq] at h2
  exact h2
theorem kdf_7_2 {a : Nat} (h : kd a = 7) : kd (rf a 2) = 20 := by
  have h2 := kd_cases (fun a => (kd a != 7) || (kd (rf a 2) == 20)) (by decide +kernel) (fun a q => by simp [kd_big q]) a
  simp only [h, bne_self_eq_false, Bool.false_or, beq_iff_eq] at h2
  exact h2
theorem lnf_7_2 {a : Nat} (h : kd a = 7) : ln (rf a 2) = 8 := by
  have h2 := kd_cases (fun a => (kd a != 7) || (ln (rf a 2) == 8)) (by decide +kernel) (fun a q => by simp [kd_big q]) a
  simp only [h, bne_self_eq_false, Bool.false_or, beq_iff_eq] at h2
  exact h2
theorem kdf_7_3 {a : Nat} (h : kd a = 7) : kd (rf a 3) = 20 := by
  have h2 := kd_cases (fun a => (kd a != 7) || (kd (rf a 3) == 20)) (by decide +kernel) (fun a q => by simp [kd_big q]) a
  simp only [h, bne_self_eq_false, Bool.false_or, beq_iff_eq] at h2
  exact h2
theorem lnf_7_3 {a : Nat} (h : kd a = 7) : ln (rf a 3) = 8 := by
  have h2 := kd_cases (fun a => (kd a != 7) || (ln (rf a 3) == 8)) (by decide +kernel) (fun a q => by simp [kd_big q]) a
  simp only [h, bne_self_eq_false, Bool.false_or, beq_iff_eq] at h2
  exact h2
theorem kdf_8_0 {a : Nat} (h : kd a = 8) : kd (rf a 0) = 20 := by
  have h2 := kd_cases (fun a => (kd a != 8) || (kd (rf a 0) == 20)) (by decide +kernel) (fun a q => by simp [kd_big q]) a
  simp only [h, bne_self_eq_false, Bool.false_or, beq_iff_eq] at h2
  exact h2
theorem lnf_8_0 {a : Nat} (h : kd a = 8) : ln (rf a 0) = 6561 := by
  have h2 := kd_cases (fun a => (kd a != 8) || (ln (rf a 0) == 6561)) (by decide +kernel) (fun a q => by simp [kd_big q]) a
  simp only [h, bne_self_eq_false, Bool.false_or, beq_iff_eq] at h2
  exact h2
theorem kdf_8_1 {a : Nat} (h : kd a = 8) : kd (rf a 1) = 20 := by
  have h2 := kd_cases (fun a => (kd a != 8) || (kd (rf a 1) == 20)) (by decide +kernel) (fun a q => by simp [kd_big q]) a
  simp only [h, bne_self_eq_false, Bool.false_or, beq_iff_eq] at h2
  exact h2
theorem lnf_8_1 {a : Nat} (h : kd a = 8) : ln (rf a 1) = 256 := by
  have h2 := kd_cases (fun a => (kd a != 8) || (ln (rf a 1) == 256)) (by decide +kernel) (fun a q => by simp [kd_big q]) a
  simp only [h, bne_self_eq_false, Bool.false_or, beq_iff_eq] at h2
  exact h2
theorem kdf_9_0 {a : Nat} (h : kd a = 9) : kd (rf a 0) = 24 := by
  have h2 := kd_cases (fun a => (kd a != 9) || (kd (rf a 0) == 24)) (by decide +kernel) (fun a q => by simp [kd_big q]) a
  simp only [h, bne_self_eq_false, Bool.false_or, beq_iff_eq] at h2
  exact h2
theorem kdf_9_1 {a : Nat} (h : kd a = 9) : kd (rf a 1) = 20 := by
  have h2 := kd_cases (fun a => (kd a != 9) || (kd (rf a 1) == 20)) (by decide +kernel) (fun a q => by simp [kd_big q]) a
  simp only [h, bne_self_eq_false, Bool.false_or, beq_iff_eq] at h2
  exact h2
theorem kdf_10_0 {a : Nat} (h : kd a = 10) : kd (rf a 0) = 9 := by
  have h2 := kd_cases (fun a => (kd a != 10) || (kd (rf a 0) == 9)) (by decide +kernel) (fun a q => by simp [kd_big q]) a
  simp only [h, bne_self_eq_false, Bool.false_or, beq_iff_eq] at h2
  exact h2
theorem kdf_10_1 {a : Nat} (h : kd a = 10) : kd (rf a 1) = 9 := by
  have h2 := kd_cases (fun a => (kd a != 10) || (kd (rf a 1) == 9)) (by decide +kernel) (fun a q => by simp [kd_big q]) a
  simp only [h, bne_self_eq_false, Bool.false_or, beq_iff_eq] at h2
  exact h2
theorem kdf_10_2 {a : Nat} (h : kd a = 10) : kd (rf a 2) = 7 := by
  have h2 := kd_cases (fun a => (kd a != 10) || (kd (rf a 2) == 7)) (by decide +kernel) (fun a q => by simp [kd_big q]) a
  simp only [h, bne_self_eq_false, Bool.false_or, beq_iff_eq] at h2
  exact h2
theorem kdf_10_3 {a : Nat} (h : kd a = 10) : kd (rf a 3) = 3 := by
  have h2 := kd_cases (fun a => (kd a != 10) || (kd (rf a 3) == 3)) (by decide +kernel) (fun a q => by simp [kd_big q]) a
  simp only [h, bne_self_eq_false, Bool.false_or, beq_iff_eq] at h2
  exact h2
theorem kdf_10_4 {a : Nat} (h : kd a = 10) : kd (rf a 4) = 22 := by
  have h2 := kd_cases (fun a => (kd a != 10) || (kd (rf a 4) == 22)) (by decide +kernel) (fun a q => by simp [kd_big q]) a
  simp only [h, bne_self_eq_false, Bool.false_or, beq_iff_eq] at h2
  exact h2
theorem lnf_10_4 {a : Nat} (h : kd a = 10) : ln (rf a 4) = 3 := by
  have h2 := kd_cases (fun a => (kd a != 10) || (ln (rf a 4) == 3)) (by decide +kernel) (fun a q => by simp [kd_big q]) a
  simp only [h, bne_self_eq_false, Bool.false_or, beq_iff_eq] at h2
  exact h2
theorem kdf_10_5 {a : Nat} (h : kd a = 10) : kd (rf a 5) = 6 := by
  have h2 := kd_cases (fun a => (kd a != 10) || (kd (rf a 5) == 6)) (by decide +kernel) (fun a q => by simp [kd_big q]) a
  simp only [h, bne_self_eq_false, Bool.false_or, beq_iff_eq] at h2
  exact h2
theorem kdf_10_6 {a : Nat} (h : kd a = 10) : kd (rf a 6) = 0 := by
  have h2 := kd_cases (fun a => (kd a != 10) || (kd (rf a 6) == 0)) (by decide +kernel) (fun a q => by simp [kd_big q]) a
  simp only [h, bne_self_eq_false, Bool.false_or, beq_iff_eq] at h2
  exact h2
theorem kdf_10_7 {a : Nat} (h : kd a = 10) : kd (rf a 7) = 5 := by
  have h2 := kd_cases (fun a => (kd a != 10) || (kd (rf a 7) == 5)) (by decide +kernel) (fun a q => by simp [kd_big q]) a
  simp only [h, bne_self_eq_false, Bool.false_or, beq_iff_eq] at h2
  exact h2
theorem kdf_10_8 {a : Nat} (h : kd a = 10) : kd (rf a 8) = 8 := by
  have h2 := kd_cases (fun a => (kd a != 10) || (kd (rf a 8) == 8)) (by decide +kernel) (fun a q => by simp [kd_big q]) a
  simp only [h, bne_self_eq_false, Bool.false_or, beq_iff_eq] at h2
  exact h2
theorem kdf_10_9 {a : Nat} (h : kd a = 10) : kd (rf a 9) = 1 := by
  have h2 := kd_cases (fun a => (kd a != 10) || (kd (rf a 9) == 1)) (by decide +kernel) (fun a q => by simp [kd_big q]) a
  simp only [h, bne_self_eq_false, Bool.false_or, beq_iff_eq] at h2
  exact h2
theorem kdf_10_10 {a : Nat} (h : kd a = 10) : kd (rf a 10) = 20 := by
  have h2 := kd_cases (fun a => (kd a != 10) || (kd (rf a 10) == 20)) (by decide +kernel) (fun a q => by simp [kd_big q]) a
  simp only [h, bne_self_eq_false, Bool.false_or, beq_iff_eq] at h2
  exact h2
theorem lnf_10_10 {a : Nat} (h : kd a = 10) : ln (rf a 10) = 6 := by
  have h2 := kd_cases (fun a => (kd a != 10) || (ln (rf a 10) == 6)) (by decide +kernel) (fun a q => by simp [kd_big q]) a
  simp only [h, bne_self_eq_false, Bool.false_or, beq_iff_eq] at h2
  exact h2
theorem kdf_11_4 {a : Nat} (h : kd a = 11) : kd (rf a 4) = 20 := by
  have h2 := kd_cases (fun a => (kd a != 11) || (kd (rf a 4) == 20)) (by decide +kernel) (fun a q => by simp [kd_big q]) a
  simp only [h, bne_self_eq_false, Bool.false_or, beq_iff_eq] at h2
  exact h2
theorem lnf_11_4 {a : Nat} (h : kd a = 11) : ln (rf a 4) = 6 := by
  have h2 := kd_cases (fun a => (kd a != 11) || (ln (rf a 4) == 6)) (by decide +kernel) (fun a q => by simp [kd_big q]) a
  simp only [h, bne_self_eq_false, Bool.false_or, beq_iff_eq] at h2
  exact h2
theorem kdf_11_5 {a : Nat} (h : kd a = 11) : kd (rf a 5) = 20 := by
  have h2 := kd_cases (fun a => (kd a != 11) || (kd (rf a 5) == 20)) (by decide +kernel) (fun a q => by simp [kd_big q]) a
  simp only [h, bne_self_eq_false, Bool.false_or, beq_iff_eq] at h2
  exact h2
theorem lnf_11_5 {a : Nat} (h : kd a = 11) : ln (rf a 5) = 240 := by
  have h2 := kd_cases (fun a => (kd a != 11) || (ln (rf a 5) == 240)) (by decide +kernel) (fun a q => by simp [kd_big q]) a
  simp only [h, bne_self_eq_false, Bool.false_or, beq_iff_eq] at h2
  exact h2
theorem kdf_11_6 {a : Nat} (h : kd a = 11) : kd (rf a 6) = 20 := by
  have h2 := kd_cases (fun a => (kd a != 11) || (kd (rf a 6) == 20)) (by decide +kernel) (fun a q => by simp [kd_big q]) a
  simp only [h, bne_self_eq_false, Bool.false_or, beq_iff_eq] at h2
  exact h2
theorem lnf_11_6 {a : Nat} (h : kd a = 11) : ln (rf a 6) = 6 := by
  have h2 := kd_cases (fun a => (kd a != 11) || (ln (rf a 6) == 6)) (by decide +kernel) (fun a q => by simp [kd_big q]) a
  simp only [h, bne_self_eq_false, Bool.false_or, beq_iff_eq] at h2
  exact h2
theorem kdf_11_7 {a : Nat} (h : kd a = 11) : kd (rf a 7) = 21 := by
  have h2 := kd_cases (fun a => (kd a != 11) || (kd (rf a 7) == 21)) (by decide +kernel) (fun a q => by simp [kd_big q]) a
  simp only [h, bne_self_eq_false, Bool.false_or, beq_iff_eq] at h2
  exact h2
theorem lnf_11_7 {a : Nat} (h : kd a = 11) : ln (rf a 7) = 240 := by
  have h2 := kd_cases (fun a => (kd a != 11) || (ln (rf a 7) == 240)) (by decide +kernel) (fun a q => by simp [kd_big q]) a
  simp only [h, bne_self_eq_false, Bool.false_or, beq_iff_eq] at h2
  exact h2
theorem kdf_11_8 {a : Nat} (h : kd a = 11) : kd (rf a 8) = 20 := by
  have h2 := kd_cases (fun a => (kd a != 11) || (kd (rf a 8) == 20)) (by decide +kernel) (fun a q => by simp [kd_big q]) a
  simp only [h, bne_self_eq_false, Bool.false_or, beq_iff_eq] at h2
  exact h2
theorem lnf_11_8 {a : Nat} (h : kd a = 11) : ln (rf a 8) = 4 := by
  have h2 := kd_cases (fun a => (kd a != 11) || (ln (rf a 8) == 4)) (by decide +kernel) (fun a q => by simp [kd_big q]) a
  simp only [h, bne_self_eq_false, Bool.false_or, beq_iff_eq] at h2
  exact h2
theorem kdf_11_9 {a : Nat} (h : kd a = 11) : kd (rf a 9) = 20 := by
  have h2 := kd_cases (fun a => (kd a != 11) || (kd (rf a 9) == 20)) (by decide +kernel) (fun a q => by simp [kd_big q]) a
  simp only [h, bne_self_eq_false, Bool.false_or, beq_iff_eq] at h2
  exact h2
theorem lnf_11_9 {a : Nat} (h : kd a = 11) : ln (rf a 9) = 40 := by
  have h2 := kd_cases (fun a => (kd a != 11) || (ln (rf a 9) == 40)) (by decide +kernel) (fun a q => by simp [kd_big q]) a
  simp only [h, bne_self_eq_false, Bool.false_or, beq_iff_eq] at h2
  exact h2
theorem kdf_11_12 {a : Nat} (h : kd a = 11) : kd (rf a 12) = 20 := by
  have h2 := kd_cases (fun a => (kd a != 11) || (kd (rf a 12) == 20)) (by decide +kernel) (fun a q => by simp [kd_big q]) a
  simp only [h, bne_self_eq_false, Bool.false_or, beq_iff_eq] at h2
  exact h2
theorem lnf_11_12 {a : Nat} (h : kd a = 11) : ln (rf a 12) = 8 := by
  have h2 := kd_cases (fun a => (kd a != 11) || (ln (rf a 12) == 8)) (by decide +kernel) (fun a q => by simp [kd_big q]) a
  simp only [h, bne_self_eq_false, Bool.false_or, beq_iff_eq] at h2
  exact h2
theorem kdf_11_13 {a : Nat} (h : kd a = 11) : kd (rf a 13) = 20 := by
  have h2 := kd_cases (fun a => (kd a != 11) || (kd (rf a 13) == 20)) (by decide +kernel) (fun a q => by simp [kd_big q]) a
  simp only [h, bne_self_eq_false, Bool.false_or, beq_iff_eq] at h2
  exact h2
theorem lnf_11_13 {a : Nat} (h : kd a = 11) : ln (rf a 13) = 8 := by
  have h2 := kd_cases (fun a => (kd a != 11) || (ln (rf a 13) == 8)) (by decide +kernel) (fun a q => by simp [kd_big q]) a
  simp only [h, bne_self_eq_false, Bool.false_or, beq_iff_eq] at h2
  exact h2
theorem kdf_11_14 {a : Nat} (h : kd a = 11) : kd (rf a 14) = 20 := by
  have h2 := kd_cases (fun a => (kd a != 11) || (kd (rf a 14) == 20)) (by decide +kernel) (fun a q => by simp [kd_big q]) a
  simp only [h, bne_self_eq_false, Bool.false_or, beq_iff_eq] at h2
  exact h2
theorem lnf_11_14 {a : Nat} (h : kd a = 11) : ln (rf a 14) = 8 := by
  have h2 := kd_cases (fun a => (kd a != 11) || (ln (rf a 14) == 8)) (by decide +kernel) (fun a q => by simp [kd_big q]) a
  simp only [h, bne_self_eq_false, Bool.false_or, beq_iff_eq] at h2
  exact h2
theorem kdf_11_15 {a : Nat} (h : kd a = 11) : kd (rf a 15) = 20 := by
  have h2 := kd_cases (fun a => (kd a != 11) || (kd (rf a 15) == 20)) (by decide +kernel) (fun a q => by simp [kd_big q]) a
  simp only [h, bne_self_eq_false, Bool.false_or, beq_iff_eq] at h2
  exact h2
theorem lnf_11_15 {a : Nat} (h : kd a = 11) : ln (rf a 15) = 8 := by
  have h2 := kd_cases (fun a => (kd a != 11) || (ln (rf a 15) == 8)) (by decide +kernel) (fun a q => by simp [kd_big q]) a
  simp only [h, bne_self_eq_false, Bool.false_or, beq_iff_eq] at h2
  exact h2
theorem kdf_11_21 {a : Nat} (h : kd a = 11) : kd (rf a 21) = 20 := by
  have h2 := kd_cases (fun a => (kd a != 11) || (kd (rf a 21) == 20)) (by decide +kernel) (fun a q => by simp [kd_big q]) a
  simp only [h, bne_self_eq_false, Bool.false_or, beq_iff_eq] at h2
  exact h2
theorem lnf_11_21 {a : Nat} (h : kd a = 11) : ln (rf a 21) = 8 := by
  have h2 := kd_cases (fun a => (kd a != 11) || (ln (rf a 21) == 8)) (by decide +kernel) (fun a q => by simp [kd_big q]) a
  simp only [h, bne_self_eq_false, Bool.false_or, beq_iff_eq] at h2
  exact h2
theorem kdf_11_22 {a : Nat} (h : kd a = 11) : kd (rf a 22) = 20 := by
  have h2 := kd_cases (fun a => (kd a != 11) || (kd (rf a 22) == 20)) (by decide +kernel) (fun a q => by simp [kd_big q]) a
  simp only [h, bne_self_eq_false, Bool.false_or, beq_iff_eq] at h2
  exact h2
theorem lnf_11_22 {a : Nat} (h : kd a = 11) : ln (rf a 22) = 8 := by
  have h2 := kd_cases (fun a => (kd a != 11) || (ln (rf a 22) == 8)) (by decide +kernel) (fun a q => by simp [kd_big q]) a
  simp only [h, bne_self_eq_false, Bool.false_or, beq_iff_eq] at h2
  exact h2
theorem kdf_11_23 {a : Nat} (h : kd a = 11) : kd (rf a 23) = 20 := by
  have h2 := kd_cases (fun a => (kd a != 11) || (kd (rf a 23) == 20)) (by decide +kernel) (fun a q => by simp [kd_big q]) a
  simp only [h, bne_self_eq_false, Bool.false_or, beq_iff_eq] at h2
  exact h2
theorem lnf_11_23 {a : Nat} (h : kd a = 11) : ln (rf a 23) = 8 := by
  have h2 := kd_cases (fun a => (kd a != 11) || (ln (rf a 23) == 8)) (by decide +kernel) (fun a q => by simp [kd_big q]) a
  simp only [h, bne_self_eq_false, Bool.false_or, beq_iff_eq] at h2
  exact h2
theorem kdf_11_24 {a : Nat} (h : kd a = 11) : kd (rf a 24) = 20 := by
  have h2 := kd_cases (fun a => (kd a != 11) || (kd (rf a 24) == 20)) (by decide +kernel) (fun a q => by simp [kd_big q]) a
  simp only [h, bne_self_eq_false, Bool.false_or, beq_iff_eq] at h2
  exact h2
theorem lnf_11_24 {a : Nat} (h : kd a = 11) : ln (rf a 24) = 8 := by
  have h2 := kd_cases (fun a => (kd a != 11) || (ln (rf a 24) == 8)) (by decide +kernel) (fun a q => by simp [kd_big q]) a
  simp only [h, bne_self_eq_false, Bool.false_or, beq_iff_eq] at h2
  exact h2
theorem kdf_11_25 {a : Nat} (h : kd a = 11) : kd (rf a 25) = 20 := by
  have h2 := kd_cases (fun a => (kd a != 11) || (kd (rf a 25) == 20)) (by decide +kernel) (fun a q => by simp [kd_big q]) a
  simp only [h, bne_self_eq_false, Bool.false_or, beq_iff_eq] at h2
  exact h2
theorem lnf_11_25 {a : Nat} (h : kd a = 11) : ln (rf a 25) = 8 := by
  have h2 := kd_cases (fun a => (kd a != 11) || (ln (rf a 25) == 8)) (by decide +kernel) (fun a q => by simp [kd_big q]) a
  simp only [h, bne_self_eq_false, Bool.false_or, beq_iff_eq] at h2
  exact h2
theorem kdf_11_26 {a : Nat} (h : kd a = 11) : kd (rf a 26) = 20 := by
  have h2 := kd_cases (fun a => (kd a != 11) || (kd (rf a 26) == 20)) (by decide +kernel) (fun a q => by simp [kd_big q]) a
  simp only [h, bne_self_eq_false, Bool.false_or, beq_iff_eq] at h2
  exact h2
theorem lnf_11_26 {a : Nat} (h : kd a = 11) : ln (rf a 26) = 8 := by
  have h2 := kd_cases (fun a => (kd a != 11) || (ln (rf a 26) == 8)) (by decide +kernel) (fun a q => by simp [kd_big q]) a
  simp only [h, bne_self_eq_false, Bool.false_or, beq_iff_eq] at h2
  exact h2
theorem kdf_11_28 {a : Nat} (h : kd a = 11) : kd (rf a 28) = 20 := by
  have h2 := kd_cases (fun a => (kd a != 11) || (kd (rf a 28) == 20)) (by decide +kernel) (fun a q => by simp [kd_big q]) a
  simp only [h, bne_self_eq_false, Bool.false_or, beq_iff_eq] at h2
  exact h2
theorem lnf_11_28 {a : Nat} (h : kd a = 11) : ln (rf a 28) = 120 := by
  have h2 := kd_cases (fun a => (kd a != 11) || (ln (rf a 28) == 120)) (by decide +kernel) (fun a q => by simp [kd_big q]) a
  simp only [h, bne_self_eq_false, Bool.false_or, beq_iff_eq] at h2
  exact h2
theorem kdf_11_29 {a : Nat} (h : kd a = 11) : kd (rf a 29) = 20 := by
  have h2 := kd_cases (fun a => (kd a != 11) || (kd (rf a 29) == 20)) (by decide +kernel) (fun a q => by simp [kd_big q]) a
  simp only [h, bne_self_eq_false, Bool.false_or, beq_iff_eq] at h2
  exact h2
theorem lnf_11_29 {a : Nat} (h : kd a = 11) : ln (rf a 29) = 3 := by
  have h2 := kd_cases (fun a => (kd a != 11) || (ln (rf a 29) == 3)) (by decide +kernel) (fun a q => by simp [kd_big q]) a
  simp only [h, bne_self_eq_false, Bool.false_or, beq_iff_eq] at h2
  exact h2
theorem kdf_11_30 {a : Nat} (h : kd a = 11) : kd (rf a 30) = 20 := by
  have h2 := kd_cases (fun a => (kd a != 11) || (kd (rf a 30) == 20)) (by decide +kernel) (fun a q => by simp [kd_big q]) a
  simp only [h, bne_self_eq_false, Bool.false_or, beq_iff_eq] at h2
  exact h2
theorem lnf_11_30 {a : Nat} (h : kd a = 11) : ln (rf a 30) = 360 := by
  have h2 := kd_cases (fun a => (kd a != 11) || (ln (rf a 30) == 360)) (by decide +kernel) (fun a q => by simp [kd_big q]) a
  simp only [h, bne_self_eq_false, Bool.false_or, beq_iff_eq] at h2
  exact h2
theorem kdf_11_31 {a : Nat} (h : kd a = 11) : kd (rf a 31) = 20 := by
  have h2 := kd_cases (fun a => (kd a != 11) || (kd (rf a 31) == 20)) (by decide +kernel) (fun a q => by simp [kd_big q]) a
  simp only [h, bne_self_eq_false, Bool.false_or, beq_iff_eq] at h2
  exact h2
theorem lnf_11_31 {a : Nat} (h : kd a = 11) : ln (rf a 31) = 256 := by
  have h2 := kd_cases (fun a => (kd a != 11) || (ln (rf a 31) == 256)) (by decide +kernel) (fun a q => by simp [kd_big q]) a
  simp only [h, bne_self_eq_false, Bool.false_or, beq_iff_eq] at h2
  exact h2
theorem kdf_11_32 {a : Nat} (h : kd a = 11) : kd (rf a 32) = 20 := by
  have h2 := kd_cases (fun a => (kd a != 11) || (kd (rf a 32) == 20)) (by decide +kernel) (fun a q => by simp [kd_big q]) a
  simp only [h, bne_self_eq_false, Bool.false_or, beq_iff_eq] at h2
  exact h2
theorem lnf_11_32 {a : Nat} (h : kd a = 11) : ln (rf a 32) = 256 := by
  have h2 := kd_cases (fun a => (kd a != 11) || (ln (rf a 32) == 256)) (by decide +kernel) (fun a q => by simp [kd_big q]) a
  simp only [h, bne_self_eq_false, Bool.false_or, beq_iff_eq] at h2
  exact h2
theorem kdf_11_33 {a : Nat} (h : kd a = 11) : kd (rf a 33) = 20 := by
  have h2 := kd_cases (fun a => (kd a != 11) || (kd (rf a 33) == 20)) (by decide +kernel) (fun a q => by simp [kd_big q]) a
  simp only [h, bne_self_eq_false, Bool.false_or, beq_iff_eq] at h2
  exact h2
theorem lnf_11_33 {a : Nat} (h : kd a = 11) : ln (rf a 33) = 28 := by
  have h2 := kd_cases (fun a => (kd a != 11) || (ln (rf a 33) == 28)) (by decide +kernel) (fun a q => by simp [kd_big q]) a
  simp only [h, bne_self_eq_false, Bool.false_or, beq_iff_eq] at h2
  exact h2
theorem kdf_11_35 {a : Nat} (h : kd a = 11) : kd (rf a 35) = 20 := by
  have h2 := kd_cases (fun a => (kd a != 11) || (kd (rf a 35) == 20)) (by decide +kernel) (fun a q => by simp [kd_big q]) a
  simp only [h, bne_self_eq_false, Bool.false_or, beq_iff_eq] at h2
  exact h2
theorem lnf_11_35 {a : Nat} (h : kd a = 11) : ln (rf a 35) = 6561 := by
  have h2 := kd_cases (fun a => (kd a != 11) || (ln (rf a 35) == 6561)) (by decide +kernel) (fun a q => by simp [kd_big q]) a
  simp only [h, bne_self_eq_false, Bool.false_or, beq_iff_eq] at h2
  exact h2
theorem kda_22 {a i : Nat} (h : kd a = 22) (hi : i < ln a) : kd (rf a i) = 2 := by
  have h2 := kd_cases (fun a => (kd a != 22) || (List.range (ln a)).all (fun i => kd (rf a i) == 2)) (by decide +kernel) (fun a q => by simp [kd_big q]) a
  simp only [h, bne_self_eq_false, Bool.false_or] at h2
  exact beq_iff_eq.mp (List.all_eq_true.mp h2 i (List.mem_range.mpr hi))
theorem kda_23 {a i : Nat} (h : kd a = 23) (hi : i < ln a) : kd (rf a i) = 4 := by
  have h2 := kd_cases (fun a => (kd a != 23) || (List.range (ln a)).all (fun i => kd (rf a i) == 4)) (by decide +kernel) (fun a q => by simp [kd_big q]) a
  simp only [h, bne_self_eq_false, Bool.false_or] at h2
  exact beq_iff_eq.mp (List.all_eq_true.mp h2 i (List.mem_range.mpr hi))
theorem kda_24 {a i : Nat} (h : kd a = 24) (hi : i < ln a) : kd (rf a i) = 20 := by
  have h2 := kd_cases (fun a => (kd a != 24) || (List.range (ln a)).all (fun i => kd (rf a i) == 20)) (by decide +kernel) (fun a q => by simp [kd_big q]) a
  simp only [h, bne_self_eq_false, Bool.false_or] at h2
  exact beq_iff_eq.mp (List.all_eq_true.mp h2 i (List.mem_range.mpr hi))
section TOP
variable {G : Glob} {d : Nat} {Y : MY} {pc : Nat} {ls : LL} {st : List Value} {M : Mem} {Q : Option Value → Mem → Prop}
theorem wp_topI {x : Int32} (K : ∀ y : Int32, y = x → Wp G d Y pc ls (.int y :: st) M Q) : Wp G d Y pc ls (.int x :: st) M Q := K x rfl
theorem wp_topJ {x : Int64} (K : ∀ y : Int64, y = x → Wp G d Y pc ls (.long y :: st) M Q) : Wp G d Y pc ls (.long x :: st) M Q := K x rfl
theorem wp_topM (K : ∀ M1 : Mem, M1 = M → Wp G d Y pc ls st M1 Q) : Wp G d Y pc ls st M Q := K M rfl
theorem wp_ldcw {i : Nat} {v : Int32} (hc : Cond.constant Y.1.cls i v ∈ gtbl) (hd : decode Y.2.1 pc = .ok (.ldc_w i, 3)) (K : Wp G d Y (pc + 3) ls (.int v :: st) M Q) : Wp G d Y pc ls st M Q := fun p e s m args below meth c X hr9 hk9 => fr_1 (fun _ _ _ _ k => lv_ldcw X.1 X.2.1 X.2.2.2.1 (X.2.2.2.2.1 _ hc) hd k) (K p e s m args below meth c X hr9 hk9)
end TOP
theorem mw_max : Cond.static Lib.Math.max.name ∈ gtbl ∧ Cond.initialized "java/lang/Math" ∈ gtbl ∧ Cond.code Lib.Math.max.name Lib.Math.max.code 2 (some .int) ∈ gtbl := ⟨m_1_31, m_1_3, m_1_32⟩
theorem mw_min : Cond.static Lib.Math.min.name ∈ gtbl ∧ Cond.initialized "java/lang/Math" ∈ gtbl ∧ Cond.code Lib.Math.min.name Lib.Math.min.code 2 (some .int) ∈ gtbl := ⟨m_3_206, m_1_3, m_3_207⟩
theorem mw_abs : Cond.static Lib.Math.abs.name ∈ gtbl ∧ Cond.initialized "java/lang/Math" ∈ gtbl ∧ Cond.code Lib.Math.abs.name Lib.Math.abs.code 1 (some .int) ∈ gtbl := ⟨m_3_44, m_1_3, m_3_45⟩
theorem mw_acopy : Cond.native arraycopyName ∈ gtbl ∧ Cond.static arraycopyName ∈ gtbl ∧ Cond.initialized "java/lang/System" ∈ gtbl := ⟨m_2_152, m_2_151, m_1_14⟩
def Y_X10_row : MY := (yX10_row, cX10_row, 3, some .int)
theorem cm_X10_row : CMV Y_X10_row 2 10 := ⟨⟨m_2_74, m_1_1, ⟨by decide +kernel, by decide +kernel, by decide +kernel⟩, by decide⟩, m_2_72, m_2_73, ⟨_, _, rfl⟩, by decide⟩
def Y_X10_lay : MY := (yX10_lay, cX10_lay, 6, some .int)
theorem cm_X10_lay : CMV Y_X10_lay 3 10 := ⟨⟨m_2_91, m_1_1, ⟨by decide +kernel, by decide +kernel, by decide +kernel⟩, by decide⟩, m_2_89, m_2_90, ⟨_, _, rfl⟩, by decide⟩
def Y_X10_at : MY := (yX10_at, cX10_at, 4, some .int)
theorem cm_X10_at : CMV Y_X10_at 2 10 := ⟨⟨m_2_128, m_1_1, ⟨by decide +kernel, by decide +kernel, by decide +kernel⟩, by decide⟩, m_2_126, m_2_127, ⟨_, _, rfl⟩, by decide⟩
def Y_X10_tear : MY := (yX10_tear, cX10_tear, 3, some .int)
theorem cm_X10_tear : CMV Y_X10_tear 1 10 := ⟨⟨m_2_132, m_1_1, ⟨by decide +kernel, by decide +kernel, by decide +kernel⟩, by decide⟩, m_2_130, m_2_131, ⟨_, _, rfl⟩, by decide⟩
def Y_X10_copy : MY := (yX10_copy, cX10_copy, 6, some .int)
theorem cm_X10_copy : CMV Y_X10_copy 5 10 := ⟨⟨m_2_140, m_1_1, ⟨by decide +kernel, by decide +kernel, by decide +kernel⟩, by decide⟩, m_2_138, m_2_139, ⟨_, _, rfl⟩, by decide⟩
def Y_X10_mean : MY := (yX10_mean, cX10_mean, 4, some .int)
theorem cm_X10_mean : CMV Y_X10_mean 1 10 := ⟨⟨m_2_156, m_1_1, ⟨by decide +kernel, by decide +kernel, by decide +kernel⟩, by decide⟩, m_2_154, m_2_155, ⟨_, _, rfl⟩, by decide⟩
def Y_X10_text : MY := (yX10_text, cX10_text, 3, some .int)
theorem cm_X10_text : CMV Y_X10_text 2 10 := ⟨⟨m_2_166, m_1_1, ⟨by decide +kernel, by decide +kernel, by decide +kernel⟩, by decide⟩, m_2_164, m_2_165, ⟨_, _, rfl⟩, by decide⟩
def Y_X10_put : MY := (yX10_put, cX10_put, 6, some .int)
theorem cm_X10_put : CMV Y_X10_put 3 10 := ⟨⟨m_2_170, m_1_1, ⟨by decide +kernel, by decide +kernel, by decide +kernel⟩, by decide⟩, m_2_168, m_2_169, ⟨_, _, rfl⟩, by decide⟩
def Y_X10_fault : MY := (yX10_fault, cX10_fault, 3, some .int)
theorem cm_X10_fault : CMV Y_X10_fault 1 10 := ⟨⟨m_2_178, m_1_1, ⟨by decide +kernel, by decide +kernel, by decide +kernel⟩, by decide⟩, m_2_176, m_2_177, ⟨_, _, rfl⟩, by decide⟩
def Y_X10_drawer : MY := (yX10_drawer, cX10_drawer, 4, some .int)
theorem cm_X10_drawer : CMV Y_X10_drawer 1 10 := ⟨⟨m_2_202, m_1_1, ⟨by decide +kernel, by decide +kernel, by decide +kernel⟩, by decide⟩, m_2_200, m_2_201, ⟨_, _, rfl⟩, by decide⟩
def Y_X10_glove : MY := (yX10_glove, cX10_glove, 3, some .int)
theorem cm_X10_glove : CMV Y_X10_glove 2 10 := ⟨⟨m_2_222, m_1_1, ⟨by decide +kernel, by decide +kernel, by decide +kernel⟩, by decide⟩, m_2_220, m_2_221, ⟨_, _, rfl⟩, by decide⟩
def Y_X10_mark : MY := (yX10_mark, cX10_mark, 3, some .int)
theorem cm_X10_mark : CMV Y_X10_mark 2 10 := ⟨⟨m_3_0, m_1_1, ⟨by decide +kernel, by decide +kernel, by decide +kernel⟩, by decide⟩, m_2_238, m_2_239, ⟨_, _, rfl⟩, by decide⟩
def Y_X10_pair : MY := (yX10_pair, cX10_pair, 3, some .int)
theorem cm_X10_pair : CMV Y_X10_pair 2 10 := ⟨⟨m_3_49, m_1_1, ⟨by decide +kernel, by decide +kernel, by decide +kernel⟩, by decide⟩, m_3_47, m_3_48, ⟨_, _, rfl⟩, by decide⟩
def Y_X10_wear : MY := (yX10_wear, cX10_wear, 4, some .int)
theorem cm_X10_wear : CMV Y_X10_wear 2 10 := ⟨⟨m_3_54, m_1_1, ⟨by decide +kernel, by decide +kernel, by decide +kernel⟩, by decide⟩, m_3_52, m_3_53, ⟨_, _, rfl⟩, by decide⟩
def Y_X10_lose : MY := (yX10_lose, cX10_lose, 2, some .int)
theorem cm_X10_lose : CMV Y_X10_lose 1 10 := ⟨⟨m_3_71, m_1_1, ⟨by decide +kernel, by decide +kernel, by decide +kernel⟩, by decide⟩, m_3_69, m_3_70, ⟨_, _, rfl⟩, by decide⟩
def Y_X10_back : MY := (yX10_back, cX10_back, 2, some .int)
theorem cm_X10_back : CMV Y_X10_back 1 10 := ⟨⟨m_3_93, m_1_1, ⟨by decide +kernel, by decide +kernel, by decide +kernel⟩, by decide⟩, m_3_91, m_3_92, ⟨_, _, rfl⟩, by decide⟩
def Y_X10_out : MY := (yX10_out, cX10_out, 2, some .int)
theorem cm_X10_out : CMV Y_X10_out 1 10 := ⟨⟨m_3_102, m_1_1, ⟨by decide +kernel, by decide +kernel, by decide +kernel⟩, by decide⟩, m_3_100, m_3_101, ⟨_, _, rfl⟩, by decide⟩
def Y_X10_undo : MY := (yX10_undo, cX10_undo, 3, some .int)
theorem cm_X10_undo : CMV Y_X10_undo 1 10 := ⟨⟨m_3_106, m_1_1, ⟨by decide +kernel, by decide +kernel, by decide +kernel⟩, by decide⟩, m_3_104, m_3_105, ⟨_, _, rfl⟩, by decide⟩
def Y_X10_keep : MY := (yX10_keep, cX10_keep, 2, some .int)
theorem cm_X10_keep : CMV Y_X10_keep 1 10 := ⟨⟨m_3_111, m_1_1, ⟨by decide +kernel, by decide +kernel, by decide +kernel⟩, by decide⟩, m_3_109, m_3_110, ⟨_, _, rfl⟩, by decide⟩
def Y_X10_on : MY := (yX10_on, cX10_on, 2, some .int)
theorem cm_X10_on : CMV Y_X10_on 1 10 := ⟨⟨m_3_119, m_1_1, ⟨by decide +kernel, by decide +kernel, by decide +kernel⟩, by decide⟩, m_3_117, m_3_118, ⟨_, _, rfl⟩, by decide⟩
def Y_X10_good : MY := (yX10_good, cX10_good, 2, some .int)
theorem cm_X10_good : CMV Y_X10_good 1 10 := ⟨⟨m_3_123, m_1_1, ⟨by decide +kernel, by decide +kernel, by decide +kernel⟩, by decide⟩, m_3_121, m_3_122, ⟨_, _, rfl⟩, by decide⟩
def Y_X10_pairs : MY := (yX10_pairs, cX10_pairs, 2, some .int)
theorem cm_X10_pairs : CMV Y_X10_pairs 1 10 := ⟨⟨m_3_141, m_1_1, ⟨by decide +kernel, by decide +kernel, by decide +kernel⟩, by decide⟩, m_3_139, m_3_140, ⟨_, _, rfl⟩, by decide⟩
def Y_X10_missed : MY := (yX10_missed, cX10_missed, 1, some .int)
theorem cm_X10_missed : CMV Y_X10_missed 0 10 := ⟨⟨m_3_157, m_1_1, ⟨by decide +kernel, by decide +kernel, by decide +kernel⟩, by decide⟩, m_3_155, m_3_156, ⟨_, _, rfl⟩, by decide⟩
def Y_X10_wished : MY := (yX10_wished, cX10_wished, 1, some .int)
theorem cm_X10_wished : CMV Y_X10_wished 0 10 := ⟨⟨m_3_166, m_1_1, ⟨by decide +kernel, by decide +kernel, by decide +kernel⟩, by decide⟩, m_3_164, m_3_165, ⟨_, _, rfl⟩, by decide⟩
def Y_X10_days : MY := (yX10_days, cX10_days, 3, some .int)
theorem cm_X10_days : CMV Y_X10_days 2 10 := ⟨⟨m_3_170, m_1_1, ⟨by decide +kernel, by decide +kernel, by decide +kernel⟩, by decide⟩, m_3_168, m_3_169, ⟨_, _, rfl⟩, by decide⟩
def Y_X10_room : MY := (yX10_room, cX10_room, 2, some .int)
theorem cm_X10_room : CMV Y_X10_room 0 10 := ⟨⟨m_3_191, m_1_1, ⟨by decide +kernel, by decide +kernel, by decide +kernel⟩, by decide⟩, m_3_189, m_3_190, ⟨_, _, rfl⟩, by decide⟩
def Y_X10_join : MY := (yX10_join, cX10_join, 3, some .int)
theorem cm_X10_join : CMV Y_X10_join 2 10 := ⟨⟨m_3_212, m_1_1, ⟨by decide +kernel, by decide +kernel, by decide +kernel⟩, by decide⟩, m_3_210, m_3_211, ⟨_, _, rfl⟩, by decide⟩
def Y_X10_sorts : MY := (yX10_sorts, cX10_sorts, 4, some .int)
theorem cm_X10_sorts : CMV Y_X10_sorts 2 10 := ⟨⟨m_3_216, m_1_1, ⟨by decide +kernel, by decide +kernel, by decide +kernel⟩, by decide⟩, m_3_214, m_3_215, ⟨_, _, rfl⟩, by decide⟩
def Y_X10_hands : MY := (yX10_hands, cX10_hands, 4, some .int)
theorem cm_X10_hands : CMV Y_X10_hands 2 10 := ⟨⟨m_3_239, m_1_1, ⟨by decide +kernel, by decide +kernel, by decide +kernel⟩, by decide⟩, m_3_237, m_3_238, ⟨_, _, rfl⟩, by decide⟩
def Y_X10_kinds : MY := (yX10_kinds, cX10_kinds, 4, some .int)
theorem cm_X10_kinds : CMV Y_X10_kinds 2 10 := ⟨⟨m_4_7, m_1_1, ⟨by decide +kernel, by decide +kernel, by decide +kernel⟩, by decide⟩, m_4_5, m_4_6, ⟨_, _, rfl⟩, by decide⟩
def Y_X10_test : MY := (yX10_test, cX10_test, 6, some .int)
theorem cm_X10_test : CMV Y_X10_test 2 10 := ⟨⟨m_4_15, m_1_1, ⟨by decide +kernel, by decide +kernel, by decide +kernel⟩, by decide⟩, m_4_13, m_4_14, ⟨_, _, rfl⟩, by decide⟩
def Y_X10_duel : MY := (yX10_duel, cX10_duel, 2, some .int)
theorem cm_X10_duel : CMV Y_X10_duel 1 10 := ⟨⟨m_4_33, m_1_1, ⟨by decide +kernel, by decide +kernel, by decide +kernel⟩, by decide⟩, m_4_31, m_4_32, ⟨_, _, rfl⟩, by decide⟩
def Y_X10_odds : MY := (yX10_odds, cX10_odds, 4, some .int)
theorem cm_X10_odds : CMV Y_X10_odds 3 10 := ⟨⟨m_4_47, m_1_1, ⟨by decide +kernel, by decide +kernel, by decide +kernel⟩, by decide⟩, m_4_45, m_4_46, ⟨_, _, rfl⟩, by decide⟩
def Y_X10_mid : MY := (yX10_mid, cX10_mid, 3, some .int)
theorem cm_X10_mid : CMV Y_X10_mid 2 10 := ⟨⟨m_4_76, m_1_1, ⟨by decide +kernel, by decide +kernel, by decide +kernel⟩, by decide⟩, m_4_74, m_4_75, ⟨_, _, rfl⟩, by decide⟩
def Y_X10_lots : MY := (yX10_lots, cX10_lots, 6, some .int)
theorem cm_X10_lots : CMV Y_X10_lots 2 10 := ⟨⟨m_4_80, m_1_1, ⟨by decide +kernel, by decide +kernel, by decide +kernel⟩, by decide⟩, m_4_78, m_4_79, ⟨_, _, rfl⟩, by decide⟩
def Y_X10_asked : MY := (yX10_asked, cX10_asked, 1, some .int)
theorem cm_X10_asked : CMV Y_X10_asked 0 10 := ⟨⟨m_4_98, m_1_1, ⟨by decide +kernel, by decide +kernel, by decide +kernel⟩, by decide⟩, m_4_96, m_4_97, ⟨_, _, rfl⟩, by decide⟩
def Y_X10_upper : MY := (yX10_upper, cX10_upper, 1, some .long)
theorem cm_X10_upper : CMV Y_X10_upper 0 10 := ⟨⟨m_4_102, m_1_1, ⟨by decide +kernel, by decide +kernel, by decide +kernel⟩, by decide⟩, m_4_100, m_4_101, ⟨_, _, rfl⟩, by decide⟩
def Y_X10_lower : MY := (yX10_lower, cX10_lower, 1, some .long)
theorem cm_X10_lower : CMV Y_X10_lower 0 10 := ⟨⟨m_4_106, m_1_1, ⟨by decide +kernel, by decide +kernel, by decide +kernel⟩, by decide⟩, m_4_104, m_4_105, ⟨_, _, rfl⟩, by decide⟩
def Y_X10_count : MY := (yX10_count, cX10_count, 2, some .int)
theorem cm_X10_count : CMV Y_X10_count 1 10 := ⟨⟨m_4_110, m_1_1, ⟨by decide +kernel, by decide +kernel, by decide +kernel⟩, by decide⟩, m_4_108, m_4_109, ⟨_, _, rfl⟩, by decide⟩
def Y_X10_finding : MY := (yX10_finding, cX10_finding, 1, some .int)
theorem cm_X10_finding : CMV Y_X10_finding 0 10 := ⟨⟨m_4_132, m_1_1, ⟨by decide +kernel, by decide +kernel, by decide +kernel⟩, by decide⟩, m_4_130, m_4_131, ⟨_, _, rfl⟩, by decide⟩
def Y_X10_findings : MY := (yX10_findings, cX10_findings, 2, some .int)
theorem cm_X10_findings : CMV Y_X10_findings 1 10 := ⟨⟨m_4_136, m_1_1, ⟨by decide +kernel, by decide +kernel, by decide +kernel⟩, by decide⟩, m_4_134, m_4_135, ⟨_, _, rfl⟩, by decide⟩
def Y_X10_digest : MY := (yX10_digest, cX10_digest, 5, some .long)
theorem cm_X10_digest : CMV Y_X10_digest 0 10 := ⟨⟨m_4_140, m_1_1, ⟨by decide +kernel, by decide +kernel, by decide +kernel⟩, by decide⟩, m_4_138, m_4_139, ⟨_, _, rfl⟩, by decide⟩
def Y_X10_finds : MY := (yX10_finds, cX10_finds, 2, some .int)
theorem cm_X10_finds : CMV Y_X10_finds 1 10 := ⟨⟨m_2_82, m_1_1, ⟨by decide +kernel, by decide +kernel, by decide +kernel⟩, by decide⟩, m_2_81, ms_0, ⟨_, _, rfl⟩, by decide⟩
def Y_X10_tells : MY := (yX10_tells, cX10_tells, 2, some .int)
theorem cm_X10_tells : CMV Y_X10_tells 1 10 := ⟨⟨m_2_124, m_1_1, ⟨by decide +kernel, by decide +kernel, by decide +kernel⟩, by decide⟩, m_2_123, ms_3, ⟨_, _, rfl⟩, by decide⟩
def Y_X10_refusedRow : MY := (yX10_refusedRow, cX10_refusedRow, 2, some .int)
theorem cm_X10_refusedRow : CMV Y_X10_refusedRow 1 10 := ⟨⟨m_2_99, m_1_1, ⟨by decide +kernel, by decide +kernel, by decide +kernel⟩, by decide⟩, m_2_98, ms_2, ⟨_, _, rfl⟩, by decide⟩
def Y_X10_refusedPlace : MY := (yX10_refusedPlace, cX10_refusedPlace, 4, some .int)
theorem cm_X10_refusedPlace : CMV Y_X10_refusedPlace 2 10 := ⟨⟨m_2_95, m_1_1, ⟨by decide +kernel, by decide +kernel, by decide +kernel⟩, by decide⟩, m_2_94, ms_1, ⟨_, _, rfl⟩, by decide⟩
def Y_X10_refusedText : MY := (yX10_refusedText, cX10_refusedText, 2, some .int)
theorem cm_X10_refusedText : CMV Y_X10_refusedText 1 10 := ⟨⟨m_2_174, m_1_1, ⟨by decide +kernel, by decide +kernel, by decide +kernel⟩, by decide⟩, m_2_173, ms_4, ⟨_, _, rfl⟩, by decide⟩
def Y_X10_refusedGuess : MY := (yX10_refusedGuess, cX10_refusedGuess, 4, some .int)
theorem cm_X10_refusedGuess : CMV Y_X10_refusedGuess 2 10 := ⟨⟨m_3_220, m_1_1, ⟨by decide +kernel, by decide +kernel, by decide +kernel⟩, by decide⟩, m_3_219, ms_13, ⟨_, _, rfl⟩, by decide⟩
def Y_X10_greatestChange : MY := (yX10_greatestChange, cX10_greatestChange, 7, some .int)
theorem cm_X10_greatestChange : CMV Y_X10_greatestChange 1 10 := ⟨⟨m_3_161, m_1_1, ⟨by decide +kernel, by decide +kernel, by decide +kernel⟩, by decide⟩, m_3_160, ms_10, ⟨_, _, rfl⟩, by decide⟩
def Y_X10_howManyKept : MY := (yX10_howManyKept, cX10_howManyKept, 3, some .int)
theorem cm_X10_howManyKept : CMV Y_X10_howManyKept 0 10 := ⟨⟨m_4_128, m_1_1, ⟨by decide +kernel, by decide +kernel, by decide +kernel⟩, by decide⟩, m_4_127, ms_18, ⟨_, _, rfl⟩, by decide⟩
def Y_X10_isChance : MY := (yX10_isChance, cX10_isChance, 1, some .boolean)
theorem cm_X10_isChance : CMS Y_X10_isChance 1 := ⟨⟨m_4_50, m_1_1, ⟨by decide +kernel, by decide +kernel, by decide +kernel⟩, by decide⟩, m_4_49⟩
def Y_X11_in : MY := (yX11_in, cX11_in, 3, some .boolean)
theorem cm_X11_in : CMS Y_X11_in 3 := ⟨⟨m_5_34, m_1_13, ⟨by decide +kernel, by decide +kernel, by decide +kernel⟩, by decide⟩, m_5_33⟩
def Y_X11_refuse : MY := (yX11_refuse, cX11_refuse, 2, some .int)
theorem cm_X11_refuse : CMV Y_X11_refuse 1 11 := ⟨⟨m_5_38, m_1_13, ⟨by decide +kernel, by decide +kernel, by decide +kernel⟩, by decide⟩, m_5_37, ms_19, ⟨_, _, rfl⟩, by decide⟩
def Y_X11_tellsAsked : MY := (yX11_tellsAsked, cX11_tellsAsked, 2, some .int)
theorem cm_X11_tellsAsked : CMV Y_X11_tellsAsked 1 11 := ⟨⟨m_5_50, m_1_13, ⟨by decide +kernel, by decide +kernel, by decide +kernel⟩, by decide⟩, m_5_49, ms_21, ⟨_, _, rfl⟩, by decide⟩
def Y_X11_tellPart : MY := (yX11_tellPart, cX11_tellPart, 11, none)
theorem cm_X11_tellPart : CMV Y_X11_tellPart 2 11 := ⟨⟨m_6_87, m_1_13, ⟨by decide +kernel, by decide +kernel, by decide +kernel⟩, by decide⟩, m_6_86, ms_53, ⟨_, _, rfl⟩, by decide⟩
def Y_X11_isRow : MY := (yX11_isRow, cX11_isRow, 1, some .boolean)
theorem cm_X11_isRow : CMS Y_X11_isRow 1 := ⟨⟨m_5_31, m_1_13, ⟨by decide +kernel, by decide +kernel, by decide +kernel⟩, by decide⟩, m_5_30⟩
def Y_X11_clearRow : MY := (yX11_clearRow, cX11_clearRow, 4, none)
theorem cm_X11_clearRow : CMV Y_X11_clearRow 2 11 := ⟨⟨m_5_42, m_1_13, ⟨by decide +kernel, by decide +kernel, by decide +kernel⟩, by decide⟩, m_5_41, ms_20, ⟨_, _, rfl⟩, by decide⟩
def Y_X11_row : MY := (yX11_row, cX11_row, 3, some .int)
theorem cm_X11_row : CMV Y_X11_row 2 11 := ⟨⟨m_5_28, m_1_13, ⟨by decide +kernel, by decide +kernel, by decide +kernel⟩, by decide⟩, m_5_26, m_5_27, ⟨_, _, rfl⟩, by decide⟩
def Y_X11_lay : MY := (yX11_lay, cX11_lay, 5, some .int)
theorem cm_X11_lay : CMV Y_X11_lay 3 11 := ⟨⟨m_5_46, m_1_13, ⟨by decide +kernel, by decide +kernel, by decide +kernel⟩, by decide⟩, m_5_44, m_5_45, ⟨_, _, rfl⟩, by decide⟩
def Y_X11_at : MY := (yX11_at, cX11_at, 3, some .int)
theorem cm_X11_at : CMV Y_X11_at 2 11 := ⟨⟨m_5_54, m_1_13, ⟨by decide +kernel, by decide +kernel, by decide +kernel⟩, by decide⟩, m_5_52, m_5_53, ⟨_, _, rfl⟩, by decide⟩
def Y_X11_tear : MY := (yX11_tear, cX11_tear, 2, some .int)
theorem cm_X11_tear : CMV Y_X11_tear 1 11 := ⟨⟨m_5_58, m_1_13, ⟨by decide +kernel, by decide +kernel, by decide +kernel⟩, by decide⟩, m_5_56, m_5_57, ⟨_, _, rfl⟩, by decide⟩
def Y_X11_copy : MY := (yX11_copy, cX11_copy, 7, some .int)
theorem cm_X11_copy : CMV Y_X11_copy 5 11 := ⟨⟨m_5_62, m_1_13, ⟨by decide +kernel, by decide +kernel, by decide +kernel⟩, by decide⟩, m_5_60, m_5_61, ⟨_, _, rfl⟩, by decide⟩
def Y_X11_mean : MY := (yX11_mean, cX11_mean, 5, some .int)
theorem cm_X11_mean : CMV Y_X11_mean 1 11 := ⟨⟨m_5_66, m_1_13, ⟨by decide +kernel, by decide +kernel, by decide +kernel⟩, by decide⟩, m_5_64, m_5_65, ⟨_, _, rfl⟩, by decide⟩
def Y_X11_isText : MY := (yX11_isText, cX11_isText, 1, some .boolean)
theorem cm_X11_isText : CMS Y_X11_isText 1 := ⟨⟨m_5_73, m_1_13, ⟨by decide +kernel, by decide +kernel, by decide +kernel⟩, by decide⟩, m_5_72⟩
def Y_X11_text : MY := (yX11_text, cX11_text, 4, some .int)
theorem cm_X11_text : CMV Y_X11_text 2 11 := ⟨⟨m_5_70, m_1_13, ⟨by decide +kernel, by decide +kernel, by decide +kernel⟩, by decide⟩, m_5_68, m_5_69, ⟨_, _, rfl⟩, by decide⟩
def Y_X11_put : MY := (yX11_put, cX11_put, 5, some .int)
theorem cm_X11_put : CMV Y_X11_put 3 11 := ⟨⟨m_5_77, m_1_13, ⟨by decide +kernel, by decide +kernel, by decide +kernel⟩, by decide⟩, m_5_75, m_5_76, ⟨_, _, rfl⟩, by decide⟩
def Y_X11_here : MY := (yX11_here, cX11_here, 1, some .int)
theorem cm_X11_here : CMV Y_X11_here 0 11 := ⟨⟨m_5_93, m_1_13, ⟨by decide +kernel, by decide +kernel, by decide +kernel⟩, by decide⟩, m_5_92, ms_24, ⟨_, _, rfl⟩, by decide⟩
def Y_X11_skip : MY := (yX11_skip, cX11_skip, 1, none)
theorem cm_X11_skip : CMV Y_X11_skip 0 11 := ⟨⟨m_5_89, m_1_13, ⟨by decide +kernel, by decide +kernel, by decide +kernel⟩, by decide⟩, m_5_88, ms_23, ⟨_, _, rfl⟩, by decide⟩
def Y_X11_figure : MY := (yX11_figure, cX11_figure, 4, some .int)
theorem cm_X11_figure : CMV Y_X11_figure 2 11 := ⟨⟨m_5_97, m_1_13, ⟨by decide +kernel, by decide +kernel, by decide +kernel⟩, by decide⟩, m_5_96, ms_25, ⟨_, _, rfl⟩, by decide⟩
def Y_X11_kindBy : MY := (yX11_kindBy, cX11_kindBy, 1, some .int)
theorem cm_X11_kindBy : CMS Y_X11_kindBy 1 := ⟨⟨m_5_104, m_1_13, ⟨by decide +kernel, by decide +kernel, by decide +kernel⟩, by decide⟩, m_5_103⟩
def Y_X11_readGlove : MY := (yX11_readGlove, cX11_readGlove, 2, none)
theorem cm_X11_readGlove : CMV Y_X11_readGlove 0 11 := ⟨⟨m_5_101, m_1_13, ⟨by decide +kernel, by decide +kernel, by decide +kernel⟩, by decide⟩, m_5_100, ms_26, ⟨_, _, rfl⟩, by decide⟩
def Y_X11_read : MY := (yX11_read, cX11_read, 3, none)
theorem cm_X11_read : CMV Y_X11_read 1 11 := ⟨⟨m_5_85, m_1_13, ⟨by decide +kernel, by decide +kernel, by decide +kernel⟩, by decide⟩, m_5_84, ms_22, ⟨_, _, rfl⟩, by decide⟩
def Y_X11_fault : MY := (yX11_fault, cX11_fault, 2, some .int)
theorem cm_X11_fault : CMV Y_X11_fault 1 11 := ⟨⟨m_5_81, m_1_13, ⟨by decide +kernel, by decide +kernel, by decide +kernel⟩, by decide⟩, m_5_79, m_5_80, ⟨_, _, rfl⟩, by decide⟩
def Y_X11_drawer : MY := (yX11_drawer, cX11_drawer, 3, some .int)
theorem cm_X11_drawer : CMV Y_X11_drawer 1 11 := ⟨⟨m_5_108, m_1_13, ⟨by decide +kernel, by decide +kernel, by decide +kernel⟩, by decide⟩, m_5_106, m_5_107, ⟨_, _, rfl⟩, by decide⟩
def Y_X11_isGlove : MY := (yX11_isGlove, cX11_isGlove, 2, some .boolean)
theorem cm_X11_isGlove : CMV Y_X11_isGlove 1 11 := ⟨⟨m_5_124, m_1_13, ⟨by decide +kernel, by decide +kernel, by decide +kernel⟩, by decide⟩, m_5_123, ms_29, ⟨_, _, rfl⟩, by decide⟩
def Y_X11_all : MY := (yX11_all, cX11_all, 1, some .int)
theorem cm_X11_all : CMV Y_X11_all 0 11 := ⟨⟨m_5_209, m_1_13, ⟨by decide +kernel, by decide +kernel, by decide +kernel⟩, by decide⟩, m_5_208, ms_38, ⟨_, _, rfl⟩, by decide⟩
def Y_X11_isOf : MY := (yX11_isOf, cX11_isOf, 2, some .boolean)
theorem cm_X11_isOf : CMS Y_X11_isOf 2 := ⟨⟨m_5_139, m_1_13, ⟨by decide +kernel, by decide +kernel, by decide +kernel⟩, by decide⟩, m_5_138⟩
def Y_X11_warmthAs : MY := (yX11_warmthAs, cX11_warmthAs, 4, some .int)
theorem cm_X11_warmthAs : CMV Y_X11_warmthAs 2 11 := ⟨⟨m_5_132, m_1_13, ⟨by decide +kernel, by decide +kernel, by decide +kernel⟩, by decide⟩, m_5_131, ms_31, ⟨_, _, rfl⟩, by decide⟩
def Y_X11_goesOn : MY := (yX11_goesOn, cX11_goesOn, 2, some .int)
theorem cm_X11_goesOn : CMS Y_X11_goesOn 2 := ⟨⟨m_5_150, m_1_13, ⟨by decide +kernel, by decide +kernel, by decide +kernel⟩, by decide⟩, m_5_149⟩
def Y_X11_pairAs : MY := (yX11_pairAs, cX11_pairAs, 11, some .int)
theorem cm_X11_pairAs : CMV Y_X11_pairAs 5 11 := ⟨⟨m_5_147, m_1_13, ⟨by decide +kernel, by decide +kernel, by decide +kernel⟩, by decide⟩, m_5_146, ms_33, ⟨_, _, rfl⟩, by decide⟩
def Y_X11_pairOf : MY := (yX11_pairOf, cX11_pairOf, 3, some .int)
theorem cm_X11_pairOf : CMV Y_X11_pairOf 2 11 := ⟨⟨m_5_143, m_1_13, ⟨by decide +kernel, by decide +kernel, by decide +kernel⟩, by decide⟩, m_5_142, ms_32, ⟨_, _, rfl⟩, by decide⟩
def Y_X11_setIn : MY := (yX11_setIn, cX11_setIn, 4, some .int)
theorem cm_X11_setIn : CMV Y_X11_setIn 1 11 := ⟨⟨m_5_178, m_1_13, ⟨by decide +kernel, by decide +kernel, by decide +kernel⟩, by decide⟩, m_5_177, ms_37, ⟨_, _, rfl⟩, by decide⟩
def Y_X11_manyOf : MY := (yX11_manyOf, cX11_manyOf, 3, some .int)
theorem cm_X11_manyOf : CMS Y_X11_manyOf 1 := ⟨⟨m_5_181, m_1_13, ⟨by decide +kernel, by decide +kernel, by decide +kernel⟩, by decide⟩, m_5_180⟩
def Y_X11_inDrawer : MY := (yX11_inDrawer, cX11_inDrawer, 1, some .int)
theorem cm_X11_inDrawer : CMV Y_X11_inDrawer 0 11 := ⟨⟨m_5_174, m_1_13, ⟨by decide +kernel, by decide +kernel, by decide +kernel⟩, by decide⟩, m_5_173, ms_36, ⟨_, _, rfl⟩, by decide⟩
def Y_X11_happen : MY := (yX11_happen, cX11_happen, 4, none)
theorem cm_X11_happen : CMV Y_X11_happen 3 11 := ⟨⟨m_5_116, m_1_13, ⟨by decide +kernel, by decide +kernel, by decide +kernel⟩, by decide⟩, m_5_115, ms_28, ⟨_, _, rfl⟩, by decide⟩
def Y_X11_goThrough : MY := (yX11_goThrough, cX11_goThrough, 2, none)
theorem cm_X11_goThrough : CMV Y_X11_goThrough 0 11 := ⟨⟨m_5_112, m_1_13, ⟨by decide +kernel, by decide +kernel, by decide +kernel⟩, by decide⟩, m_5_111, ms_27, ⟨_, _, rfl⟩, by decide⟩
def Y_X11_does : MY := (yX11_does, cX11_does, 4, none)
theorem cm_X11_does : CMV Y_X11_does 3 11 := ⟨⟨m_5_166, m_1_13, ⟨by decide +kernel, by decide +kernel, by decide +kernel⟩, by decide⟩, m_5_165, ms_35, ⟨_, _, rfl⟩, by decide⟩
def Y_X11_ofGlove : MY := (yX11_ofGlove, cX11_ofGlove, 3, some .int)
theorem cm_X11_ofGlove : CMV Y_X11_ofGlove 2 11 := ⟨⟨m_5_128, m_1_13, ⟨by decide +kernel, by decide +kernel, by decide +kernel⟩, by decide⟩, m_5_127, ms_30, ⟨_, _, rfl⟩, by decide⟩
def Y_X11_glove : MY := (yX11_glove, cX11_glove, 3, some .int)
theorem cm_X11_glove : CMV Y_X11_glove 2 11 := ⟨⟨m_5_120, m_1_13, ⟨by decide +kernel, by decide +kernel, by decide +kernel⟩, by decide⟩, m_5_118, m_5_119, ⟨_, _, rfl⟩, by decide⟩
def Y_X11_mark : MY := (yX11_mark, cX11_mark, 6, some .int)
theorem cm_X11_mark : CMV Y_X11_mark 2 11 := ⟨⟨m_5_136, m_1_13, ⟨by decide +kernel, by decide +kernel, by decide +kernel⟩, by decide⟩, m_5_134, m_5_135, ⟨_, _, rfl⟩, by decide⟩
def Y_X11_areTwo : MY := (yX11_areTwo, cX11_areTwo, 3, some .boolean)
theorem cm_X11_areTwo : CMV Y_X11_areTwo 2 11 := ⟨⟨m_5_158, m_1_13, ⟨by decide +kernel, by decide +kernel, by decide +kernel⟩, by decide⟩, m_5_157, ms_34, ⟨_, _, rfl⟩, by decide⟩
def Y_X11_pair : MY := (yX11_pair, cX11_pair, 3, some .int)
theorem cm_X11_pair : CMV Y_X11_pair 2 11 := ⟨⟨m_5_154, m_1_13, ⟨by decide +kernel, by decide +kernel, by decide +kernel⟩, by decide⟩, m_5_152, m_5_153, ⟨_, _, rfl⟩, by decide⟩
def Y_X11_wear : MY := (yX11_wear, cX11_wear, 4, some .int)
theorem cm_X11_wear : CMV Y_X11_wear 2 11 := ⟨⟨m_5_162, m_1_13, ⟨by decide +kernel, by decide +kernel, by decide +kernel⟩, by decide⟩, m_5_160, m_5_161, ⟨_, _, rfl⟩, by decide⟩
def Y_X11_lose : MY := (yX11_lose, cX11_lose, 2, some .int)
theorem cm_X11_lose : CMV Y_X11_lose 1 11 := ⟨⟨m_5_170, m_1_13, ⟨by decide +kernel, by decide +kernel, by decide +kernel⟩, by decide⟩, m_5_168, m_5_169, ⟨_, _, rfl⟩, by decide⟩
def Y_X11_back : MY := (yX11_back, cX11_back, 2, some .int)
theorem cm_X11_back : CMV Y_X11_back 1 11 := ⟨⟨m_5_185, m_1_13, ⟨by decide +kernel, by decide +kernel, by decide +kernel⟩, by decide⟩, m_5_183, m_5_184, ⟨_, _, rfl⟩, by decide⟩
def Y_X11_out : MY := (yX11_out, cX11_out, 2, some .int)
theorem cm_X11_out : CMV Y_X11_out 1 11 := ⟨⟨m_5_189, m_1_13, ⟨by decide +kernel, by decide +kernel, by decide +kernel⟩, by decide⟩, m_5_187, m_5_188, ⟨_, _, rfl⟩, by decide⟩
def Y_X11_undo : MY := (yX11_undo, cX11_undo, 3, some .int)
theorem cm_X11_undo : CMV Y_X11_undo 1 11 := ⟨⟨m_5_193, m_1_13, ⟨by decide +kernel, by decide +kernel, by decide +kernel⟩, by decide⟩, m_5_191, m_5_192, ⟨_, _, rfl⟩, by decide⟩
def Y_X11_keep : MY := (yX11_keep, cX11_keep, 3, some .int)
theorem cm_X11_keep : CMV Y_X11_keep 1 11 := ⟨⟨m_5_197, m_1_13, ⟨by decide +kernel, by decide +kernel, by decide +kernel⟩, by decide⟩, m_5_195, m_5_196, ⟨_, _, rfl⟩, by decide⟩
def Y_X11_on : MY := (yX11_on, cX11_on, 3, some .int)
theorem cm_X11_on : CMV Y_X11_on 1 11 := ⟨⟨m_5_201, m_1_13, ⟨by decide +kernel, by decide +kernel, by decide +kernel⟩, by decide⟩, m_5_199, m_5_200, ⟨_, _, rfl⟩, by decide⟩
def Y_X11_lowestOf : MY := (yX11_lowestOf, cX11_lowestOf, 2, some .int)
theorem cm_X11_lowestOf : CMS Y_X11_lowestOf 1 := ⟨⟨m_5_216, m_1_13, ⟨by decide +kernel, by decide +kernel, by decide +kernel⟩, by decide⟩, m_5_215⟩
def Y_X11_measure : MY := (yX11_measure, cX11_measure, 7, none)
theorem cm_X11_measure : CMV Y_X11_measure 0 11 := ⟨⟨m_5_213, m_1_13, ⟨by decide +kernel, by decide +kernel, by decide +kernel⟩, by decide⟩, m_5_212, ms_39, ⟨_, _, rfl⟩, by decide⟩
def Y_X11_good : MY := (yX11_good, cX11_good, 2, some .int)
theorem cm_X11_good : CMV Y_X11_good 1 11 := ⟨⟨m_5_205, m_1_13, ⟨by decide +kernel, by decide +kernel, by decide +kernel⟩, by decide⟩, m_5_203, m_5_204, ⟨_, _, rfl⟩, by decide⟩
def Y_X11_pairs : MY := (yX11_pairs, cX11_pairs, 9, some .int)
theorem cm_X11_pairs : CMV Y_X11_pairs 1 11 := ⟨⟨m_5_220, m_1_13, ⟨by decide +kernel, by decide +kernel, by decide +kernel⟩, by decide⟩, m_5_218, m_5_219, ⟨_, _, rfl⟩, by decide⟩
def Y_X11_missed : MY := (yX11_missed, cX11_missed, 6, some .int)
theorem cm_X11_missed : CMV Y_X11_missed 0 11 := ⟨⟨m_5_224, m_1_13, ⟨by decide +kernel, by decide +kernel, by decide +kernel⟩, by decide⟩, m_5_222, m_5_223, ⟨_, _, rfl⟩, by decide⟩
def Y_X11_wished : MY := (yX11_wished, cX11_wished, 6, some .int)
theorem cm_X11_wished : CMV Y_X11_wished 0 11 := ⟨⟨m_5_228, m_1_13, ⟨by decide +kernel, by decide +kernel, by decide +kernel⟩, by decide⟩, m_5_226, m_5_227, ⟨_, _, rfl⟩, by decide⟩
def Y_X11_listTwos : MY := (yX11_listTwos, cX11_listTwos, 3, none)
theorem cm_X11_listTwos : CMV Y_X11_listTwos 0 11 := ⟨⟨m_5_236, m_1_13, ⟨by decide +kernel, by decide +kernel, by decide +kernel⟩, by decide⟩, m_5_235, ms_40, ⟨_, _, rfl⟩, by decide⟩
def Y_X11_useOf : MY := (yX11_useOf, cX11_useOf, 3, some .int)
theorem cm_X11_useOf : CMV Y_X11_useOf 1 11 := ⟨⟨m_6_0, m_1_13, ⟨by decide +kernel, by decide +kernel, by decide +kernel⟩, by decide⟩, m_5_239, ms_41, ⟨_, _, rfl⟩, by decide⟩
def Y_X11_takeOff : MY := (yX11_takeOff, cX11_takeOff, 2, none)
theorem cm_X11_takeOff : CMV Y_X11_takeOff 1 11 := ⟨⟨m_6_4, m_1_13, ⟨by decide +kernel, by decide +kernel, by decide +kernel⟩, by decide⟩, m_6_3, ms_42, ⟨_, _, rfl⟩, by decide⟩
def Y_X11_days : MY := (yX11_days, cX11_days, 10, some .int)
theorem cm_X11_days : CMV Y_X11_days 2 11 := ⟨⟨m_5_232, m_1_13, ⟨by decide +kernel, by decide +kernel, by decide +kernel⟩, by decide⟩, m_5_230, m_5_231, ⟨_, _, rfl⟩, by decide⟩
def Y_X11_worstOf : MY := (yX11_worstOf, cX11_worstOf, 5, some .int)
theorem cm_X11_worstOf : CMV Y_X11_worstOf 1 11 := ⟨⟨m_6_12, m_1_13, ⟨by decide +kernel, by decide +kernel, by decide +kernel⟩, by decide⟩, m_6_11, ms_43, ⟨_, _, rfl⟩, by decide⟩
def Y_X11_room : MY := (yX11_room, cX11_room, 5, some .int)
theorem cm_X11_room : CMV Y_X11_room 0 11 := ⟨⟨m_6_8, m_1_13, ⟨by decide +kernel, by decide +kernel, by decide +kernel⟩, by decide⟩, m_6_6, m_6_7, ⟨_, _, rfl⟩, by decide⟩
def Y_X11_join : MY := (yX11_join, cX11_join, 3, some .int)
theorem cm_X11_join : CMV Y_X11_join 2 11 := ⟨⟨m_6_16, m_1_13, ⟨by decide +kernel, by decide +kernel, by decide +kernel⟩, by decide⟩, m_6_14, m_6_15, ⟨_, _, rfl⟩, by decide⟩
def Y_X11_judge : MY := (yX11_judge, cX11_judge, 7, some .int)
theorem cm_X11_judge : CMV Y_X11_judge 2 11 := ⟨⟨m_6_24, m_1_13, ⟨by decide +kernel, by decide +kernel, by decide +kernel⟩, by decide⟩, m_6_23, ms_44, ⟨_, _, rfl⟩, by decide⟩
def Y_X11_isSo : MY := (yX11_isSo, cX11_isSo, 8, some .boolean)
theorem cm_X11_isSo : CMV Y_X11_isSo 5 11 := ⟨⟨m_6_28, m_1_13, ⟨by decide +kernel, by decide +kernel, by decide +kernel⟩, by decide⟩, m_6_27, ms_45, ⟨_, _, rfl⟩, by decide⟩
def Y_X11_sorts : MY := (yX11_sorts, cX11_sorts, 6, some .int)
theorem cm_X11_sorts : CMV Y_X11_sorts 2 11 := ⟨⟨m_6_20, m_1_13, ⟨by decide +kernel, by decide +kernel, by decide +kernel⟩, by decide⟩, m_6_18, m_6_19, ⟨_, _, rfl⟩, by decide⟩
def Y_X11_hands : MY := (yX11_hands, cX11_hands, 6, some .int)
theorem cm_X11_hands : CMV Y_X11_hands 2 11 := ⟨⟨m_6_32, m_1_13, ⟨by decide +kernel, by decide +kernel, by decide +kernel⟩, by decide⟩, m_6_30, m_6_31, ⟨_, _, rfl⟩, by decide⟩
def Y_X11_kindsBy : MY := (yX11_kindsBy, cX11_kindsBy, 5, some .int)
theorem cm_X11_kindsBy : CMV Y_X11_kindsBy 2 11 := ⟨⟨m_6_40, m_1_13, ⟨by decide +kernel, by decide +kernel, by decide +kernel⟩, by decide⟩, m_6_39, ms_46, ⟨_, _, rfl⟩, by decide⟩
def Y_X11_kinds : MY := (yX11_kinds, cX11_kinds, 4, some .int)
theorem cm_X11_kinds : CMV Y_X11_kinds 2 11 := ⟨⟨m_6_36, m_1_13, ⟨by decide +kernel, by decide +kernel, by decide +kernel⟩, by decide⟩, m_6_34, m_6_35, ⟨_, _, rfl⟩, by decide⟩
def Y_X11_partBy : MY := (yX11_partBy, cX11_partBy, 9, some .int)
theorem cm_X11_partBy : CMV Y_X11_partBy 3 11 := ⟨⟨m_6_48, m_1_13, ⟨by decide +kernel, by decide +kernel, by decide +kernel⟩, by decide⟩, m_6_47, ms_47, ⟨_, _, rfl⟩, by decide⟩
def Y_X11_test : MY := (yX11_test, cX11_test, 9, some .int)
theorem cm_X11_test : CMV Y_X11_test 2 11 := ⟨⟨m_6_44, m_1_13, ⟨by decide +kernel, by decide +kernel, by decide +kernel⟩, by decide⟩, m_6_42, m_6_43, ⟨_, _, rfl⟩, by decide⟩
def Y_X11_unitOf : MY := (yX11_unitOf, cX11_unitOf, 3, some .int)
theorem cm_X11_unitOf : CMS Y_X11_unitOf 1 := ⟨⟨m_6_55, m_1_13, ⟨by decide +kernel, by decide +kernel, by decide +kernel⟩, by decide⟩, m_6_54⟩
def Y_X11_hasOf : MY := (yX11_hasOf, cX11_hasOf, 6, some .int)
theorem cm_X11_hasOf : CMV Y_X11_hasOf 2 11 := ⟨⟨m_6_59, m_1_13, ⟨by decide +kernel, by decide +kernel, by decide +kernel⟩, by decide⟩, m_6_58, ms_48, ⟨_, _, rfl⟩, by decide⟩
def Y_X11_duel : MY := (yX11_duel, cX11_duel, 9, some .int)
theorem cm_X11_duel : CMV Y_X11_duel 1 11 := ⟨⟨m_6_52, m_1_13, ⟨by decide +kernel, by decide +kernel, by decide +kernel⟩, by decide⟩, m_6_50, m_6_51, ⟨_, _, rfl⟩, by decide⟩
def Y_X11_bestTurn : MY := (yX11_bestTurn, cX11_bestTurn, 8, some .int)
theorem cm_X11_bestTurn : CMV Y_X11_bestTurn 3 11 := ⟨⟨m_6_63, m_1_13, ⟨by decide +kernel, by decide +kernel, by decide +kernel⟩, by decide⟩, m_6_62, ms_49, ⟨_, _, rfl⟩, by decide⟩
def Y_X11_areOf : MY := (yX11_areOf, cX11_areOf, 2, some .boolean)
theorem cm_X11_areOf : CMS Y_X11_areOf 2 := ⟨⟨m_6_70, m_1_13, ⟨by decide +kernel, by decide +kernel, by decide +kernel⟩, by decide⟩, m_6_69⟩
def Y_X11_lossOf : MY := (yX11_lossOf, cX11_lossOf, 4, some .int)
theorem cm_X11_lossOf : CMV Y_X11_lossOf 3 11 := ⟨⟨m_6_78, m_1_13, ⟨by decide +kernel, by decide +kernel, by decide +kernel⟩, by decide⟩, m_6_77, ms_51, ⟨_, _, rfl⟩, by decide⟩
def Y_X11_waysOf : MY := (yX11_waysOf, cX11_waysOf, 9, some .long)
theorem cm_X11_waysOf : CMV Y_X11_waysOf 4 11 := ⟨⟨m_6_74, m_1_13, ⟨by decide +kernel, by decide +kernel, by decide +kernel⟩, by decide⟩, m_6_73, ms_50, ⟨_, _, rfl⟩, by decide⟩
def Y_X11_allWays : MY := (yX11_allWays, cX11_allWays, 5, some .long)
theorem cm_X11_allWays : CMV Y_X11_allWays 1 11 := ⟨⟨m_6_82, m_1_13, ⟨by decide +kernel, by decide +kernel, by decide +kernel⟩, by decide⟩, m_6_81, ms_52, ⟨_, _, rfl⟩, by decide⟩
def Y_X11_odds : MY := (yX11_odds, cX11_odds, 8, some .int)
theorem cm_X11_odds : CMV Y_X11_odds 3 11 := ⟨⟨m_6_67, m_1_13, ⟨by decide +kernel, by decide +kernel, by decide +kernel⟩, by decide⟩, m_6_65, m_6_66, ⟨_, _, rfl⟩, by decide⟩
def Y_X11_mid : MY := (yX11_mid, cX11_mid, 7, some .int)
theorem cm_X11_mid : CMV Y_X11_mid 2 11 := ⟨⟨m_6_91, m_1_13, ⟨by decide +kernel, by decide +kernel, by decide +kernel⟩, by decide⟩, m_6_89, m_6_90, ⟨_, _, rfl⟩, by decide⟩
def Y_X11_lots : MY := (yX11_lots, cX11_lots, 7, some .int)
theorem cm_X11_lots : CMV Y_X11_lots 2 11 := ⟨⟨m_6_95, m_1_13, ⟨by decide +kernel, by decide +kernel, by decide +kernel⟩, by decide⟩, m_6_93, m_6_94, ⟨_, _, rfl⟩, by decide⟩
def Y_X11_asked : MY := (yX11_asked, cX11_asked, 1, some .int)
theorem cm_X11_asked : CMV Y_X11_asked 0 11 := ⟨⟨m_6_103, m_1_13, ⟨by decide +kernel, by decide +kernel, by decide +kernel⟩, by decide⟩, m_6_101, m_6_102, ⟨_, _, rfl⟩, by decide⟩
def Y_X11_upper : MY := (yX11_upper, cX11_upper, 1, some .long)
theorem cm_X11_upper : CMV Y_X11_upper 0 11 := ⟨⟨m_6_107, m_1_13, ⟨by decide +kernel, by decide +kernel, by decide +kernel⟩, by decide⟩, m_6_105, m_6_106, ⟨_, _, rfl⟩, by decide⟩
def Y_X11_lower : MY := (yX11_lower, cX11_lower, 1, some .long)
theorem cm_X11_lower : CMV Y_X11_lower 0 11 := ⟨⟨m_6_111, m_1_13, ⟨by decide +kernel, by decide +kernel, by decide +kernel⟩, by decide⟩, m_6_109, m_6_110, ⟨_, _, rfl⟩, by decide⟩
def Y_X11_count : MY := (yX11_count, cX11_count, 4, some .int)
theorem cm_X11_count : CMV Y_X11_count 1 11 := ⟨⟨m_6_115, m_1_13, ⟨by decide +kernel, by decide +kernel, by decide +kernel⟩, by decide⟩, m_6_113, m_6_114, ⟨_, _, rfl⟩, by decide⟩
def Y_X11_finding : MY := (yX11_finding, cX11_finding, 1, some .int)
theorem cm_X11_finding : CMV Y_X11_finding 0 11 := ⟨⟨m_6_119, m_1_13, ⟨by decide +kernel, by decide +kernel, by decide +kernel⟩, by decide⟩, m_6_117, m_6_118, ⟨_, _, rfl⟩, by decide⟩
def Y_X11_findings : MY := (yX11_findings, cX11_findings, 2, some .int)
theorem cm_X11_findings : CMV Y_X11_findings 1 11 := ⟨⟨m_6_123, m_1_13, ⟨by decide +kernel, by decide +kernel, by decide +kernel⟩, by decide⟩, m_6_121, m_6_122, ⟨_, _, rfl⟩, by decide⟩
def Y_X11_digest : MY := (yX11_digest, cX11_digest, 5, some .long)
theorem cm_X11_digest : CMV Y_X11_digest 0 11 := ⟨⟨m_6_127, m_1_13, ⟨by decide +kernel, by decide +kernel, by decide +kernel⟩, by decide⟩, m_6_125, m_6_126, ⟨_, _, rfl⟩, by decide⟩
def Y_X0_plan : MY := (yX0_plan, cX0_plan, 6, some .int)
theorem cm_X0_plan : CMV Y_X0_plan 4 0 := ⟨⟨m_3_174, m_1_9, ⟨by decide +kernel, by decide +kernel, by decide +kernel⟩, by decide⟩, m_3_172, m_3_173, ⟨_, _, rfl⟩, by decide⟩
def Y_X0_gather : MY := (yX0_gather, cX0_gather, 5, none)
theorem cm_X0_gather : CMV Y_X0_gather 1 0 := ⟨⟨m_3_178, m_1_9, ⟨by decide +kernel, by decide +kernel, by decide +kernel⟩, by decide⟩, m_3_177, ms_11, ⟨_, _, rfl⟩, by decide⟩
def Y_X0_search : MY := (yX0_search, cX0_search, 8, none)
theorem cm_X0_search : CMS Y_X0_search 4 := ⟨⟨m_3_185, m_1_9, ⟨by decide +kernel, by decide +kernel, by decide +kernel⟩, by decide⟩, m_3_184⟩
def Y_X1_reckon : MY := (yX1_reckon, cX1_reckon, 12, none)
theorem cm_X1_reckon : CMV Y_X1_reckon 4 1 := ⟨⟨m_4_58, m_1_12, ⟨by decide +kernel, by decide +kernel, by decide +kernel⟩, by decide⟩, m_4_56, m_4_57, ⟨_, _, rfl⟩, by decide⟩
def Y_X1_lossOf : MY := (yX1_lossOf, cX1_lossOf, 3, some .int)
theorem cm_X1_lossOf : CMS Y_X1_lossOf 3 := ⟨⟨m_4_62, m_1_12, ⟨by decide +kernel, by decide +kernel, by decide +kernel⟩, by decide⟩, m_4_61⟩
def Y_X1_waysTo : MY := (yX1_waysTo, cX1_waysTo, 7, some .long)
theorem cm_X1_waysTo : CMV Y_X1_waysTo 3 1 := ⟨⟨m_4_69, m_1_12, ⟨by decide +kernel, by decide +kernel, by decide +kernel⟩, by decide⟩, m_4_68, ms_16, ⟨_, _, rfl⟩, by decide⟩
def Y_X1_commonDivisor : MY := (yX1_commonDivisor, cX1_commonDivisor, 7, some .long)
theorem cm_X1_commonDivisor : CMS Y_X1_commonDivisor 2 := ⟨⟨m_4_72, m_1_12, ⟨by decide +kernel, by decide +kernel, by decide +kernel⟩, by decide⟩, m_4_71⟩
def Y_X2_roomLeft : MY := (yX2_roomLeft, cX2_roomLeft, 1, some .int)
theorem cm_X2_roomLeft : CMV Y_X2_roomLeft 0 2 := ⟨⟨m_3_59, m_1_6, ⟨by decide +kernel, by decide +kernel, by decide +kernel⟩, by decide⟩, m_3_57, m_3_58, ⟨_, _, rfl⟩, by decide⟩
def Y_X2_add : MY := (yX2_add, cX2_add, 4, none)
theorem cm_X2_add : CMV Y_X2_add 3 2 := ⟨⟨m_3_67, m_1_6, ⟨by decide +kernel, by decide +kernel, by decide +kernel⟩, by decide⟩, m_3_65, m_3_66, ⟨_, _, rfl⟩, by decide⟩
def Y_X2_becomeLike : MY := (yX2_becomeLike, cX2_becomeLike, 3, none)
theorem cm_X2_becomeLike : CMV Y_X2_becomeLike 1 2 := ⟨⟨m_3_115, m_1_6, ⟨by decide +kernel, by decide +kernel, by decide +kernel⟩, by decide⟩, m_3_113, m_3_114, ⟨_, _, rfl⟩, by decide⟩
def Y_X3_fill : MY := (yX3_fill, cX3_fill, 3, none)
theorem cm_X3_fill : CMV Y_X3_fill 1 3 := ⟨⟨m_2_206, m_1_5, ⟨by decide +kernel, by decide +kernel, by decide +kernel⟩, by decide⟩, m_2_204, m_2_205, ⟨_, _, rfl⟩, by decide⟩
def Y_X3_has : MY := (yX3_has, cX3_has, 2, some .boolean)
theorem cm_X3_has : CMV Y_X3_has 1 3 := ⟨⟨m_2_218, m_1_5, ⟨by decide +kernel, by decide +kernel, by decide +kernel⟩, by decide⟩, m_2_216, m_2_217, ⟨_, _, rfl⟩, by decide⟩
def Y_X3_isSet : MY := (yX3_isSet, cX3_isSet, 2, some .boolean)
theorem cm_X3_isSet : CMV Y_X3_isSet 1 3 := ⟨⟨m_3_127, m_1_5, ⟨by decide +kernel, by decide +kernel, by decide +kernel⟩, by decide⟩, m_3_125, m_3_126, ⟨_, _, rfl⟩, by decide⟩
def Y_X3_isInside : MY := (yX3_isInside, cX3_isInside, 2, some .boolean)
theorem cm_X3_isInside : CMV Y_X3_isInside 1 3 := ⟨⟨m_3_14, m_1_5, ⟨by decide +kernel, by decide +kernel, by decide +kernel⟩, by decide⟩, m_3_12, m_3_13, ⟨_, _, rfl⟩, by decide⟩
def Y_X3_canBeLost : MY := (yX3_canBeLost, cX3_canBeLost, 2, some .boolean)
theorem cm_X3_canBeLost : CMV Y_X3_canBeLost 1 3 := ⟨⟨m_3_75, m_1_5, ⟨by decide +kernel, by decide +kernel, by decide +kernel⟩, by decide⟩, m_3_73, m_3_74, ⟨_, _, rfl⟩, by decide⟩
def Y_X3_setOf : MY := (yX3_setOf, cX3_setOf, 4, some .int)
theorem cm_X3_setOf : CMV Y_X3_setOf 1 3 := ⟨⟨m_3_83, m_1_5, ⟨by decide +kernel, by decide +kernel, by decide +kernel⟩, by decide⟩, m_3_81, m_3_82, ⟨_, _, rfl⟩, by decide⟩
def Y_X3_howManyInside : MY := (yX3_howManyInside, cX3_howManyInside, 1, some .int)
theorem cm_X3_howManyInside : CMV Y_X3_howManyInside 0 3 := ⟨⟨m_3_79, m_1_5, ⟨by decide +kernel, by decide +kernel, by decide +kernel⟩, by decide⟩, m_3_77, m_3_78, ⟨_, _, rfl⟩, by decide⟩
def Y_X3_hasRoom : MY := (yX3_hasRoom, cX3_hasRoom, 1, some .boolean)
theorem cm_X3_hasRoom : CMV Y_X3_hasRoom 0 3 := ⟨⟨m_3_97, m_1_5, ⟨by decide +kernel, by decide +kernel, by decide +kernel⟩, by decide⟩, m_3_95, m_3_96, ⟨_, _, rfl⟩, by decide⟩
def Y_X3_allWear : MY := (yX3_allWear, cX3_allWear, 3, some .int)
theorem cm_X3_allWear : CMV Y_X3_allWear 0 3 := ⟨⟨m_4_114, m_1_5, ⟨by decide +kernel, by decide +kernel, by decide +kernel⟩, by decide⟩, m_4_112, m_4_113, ⟨_, _, rfl⟩, by decide⟩
def Y_X3_howManyOf : MY := (yX3_howManyOf, cX3_howManyOf, 4, some .int)
theorem cm_X3_howManyOf : CMV Y_X3_howManyOf 1 3 := ⟨⟨m_4_118, m_1_5, ⟨by decide +kernel, by decide +kernel, by decide +kernel⟩, by decide⟩, m_4_116, m_4_117, ⟨_, _, rfl⟩, by decide⟩
def Y_X3_matesOf : MY := (yX3_matesOf, cX3_matesOf, 4, some .int)
theorem cm_X3_matesOf : CMV Y_X3_matesOf 1 3 := ⟨⟨m_3_10, m_1_5, ⟨by decide +kernel, by decide +kernel, by decide +kernel⟩, by decide⟩, m_3_8, m_3_9, ⟨_, _, rfl⟩, by decide⟩
def Y_X3_sameSortAs : MY := (yX3_sameSortAs, cX3_sameSortAs, 4, some .int)
theorem cm_X3_sameSortAs : CMV Y_X3_sameSortAs 1 3 := ⟨⟨m_3_27, m_1_5, ⟨by decide +kernel, by decide +kernel, by decide +kernel⟩, by decide⟩, m_3_25, m_3_26, ⟨_, _, rfl⟩, by decide⟩
def Y_X3_act : MY := (yX3_act, cX3_act, 4, none)
theorem cm_X3_act : CMV Y_X3_act 3 3 := ⟨⟨m_3_63, m_1_5, ⟨by decide +kernel, by decide +kernel, by decide +kernel⟩, by decide⟩, m_3_61, m_3_62, ⟨_, _, rfl⟩, by decide⟩
def Y_X3_actByLot : MY := (yX3_actByLot, cX3_actByLot, 4, none)
theorem cm_X3_actByLot : CMV Y_X3_actByLot 1 3 := ⟨⟨m_4_87, m_1_5, ⟨by decide +kernel, by decide +kernel, by decide +kernel⟩, by decide⟩, m_4_85, m_4_86, ⟨_, _, rfl⟩, by decide⟩
def Y_X3_wearFirstPair : MY := (yX3_wearFirstPair, cX3_wearFirstPair, 3, none)
theorem cm_X3_wearFirstPair : CMV Y_X3_wearFirstPair 0 3 := ⟨⟨m_4_94, m_1_5, ⟨by decide +kernel, by decide +kernel, by decide +kernel⟩, by decide⟩, m_4_93, ms_17, ⟨_, _, rfl⟩, by decide⟩
def Y_X3_replay : MY := (yX3_replay, cX3_replay, 3, none)
theorem cm_X3_replay : CMV Y_X3_replay 0 3 := ⟨⟨m_2_210, m_1_5, ⟨by decide +kernel, by decide +kernel, by decide +kernel⟩, by decide⟩, m_2_208, m_2_209, ⟨_, _, rfl⟩, by decide⟩
def Y_X3_carryOut : MY := (yX3_carryOut, cX3_carryOut, 4, none)
theorem cm_X3_carryOut : CMV Y_X3_carryOut 3 3 := ⟨⟨m_2_214, m_1_5, ⟨by decide +kernel, by decide +kernel, by decide +kernel⟩, by decide⟩, m_2_213, ms_6, ⟨_, _, rfl⟩, by decide⟩
def Y_X4_becomeLike : MY := (yX4_becomeLike, cX4_becomeLike, 2, none)
theorem cm_X4_becomeLike : CMV Y_X4_becomeLike 1 4 := ⟨⟨m_3_36, m_1_7, ⟨by decide +kernel, by decide +kernel, by decide +kernel⟩, by decide⟩, m_3_34, m_3_35, ⟨_, _, rfl⟩, by decide⟩
def Y_X4_isOf : MY := (yX4_isOf, cX4_isOf, 2, some .boolean)
theorem cm_X4_isOf : CMV Y_X4_isOf 1 4 := ⟨⟨m_3_4, m_1_7, ⟨by decide +kernel, by decide +kernel, by decide +kernel⟩, by decide⟩, m_3_2, m_3_3, ⟨_, _, rfl⟩, by decide⟩
def Y_X4_bareWarmth : MY := (yX4_bareWarmth, cX4_bareWarmth, 1, some .int)
theorem cm_X4_bareWarmth : CMV Y_X4_bareWarmth 0 4 := ⟨⟨m_2_235, m_1_7, ⟨by decide +kernel, by decide +kernel, by decide +kernel⟩, by decide⟩, m_2_233, m_2_234, ⟨_, _, rfl⟩, by decide⟩
def Y_X4_warmth : MY := (yX4_warmth, cX4_warmth, 2, some .int)
theorem cm_X4_warmth : CMV Y_X4_warmth 0 4 := ⟨⟨m_2_231, m_1_7, ⟨by decide +kernel, by decide +kernel, by decide +kernel⟩, by decide⟩, m_2_229, m_2_230, ⟨_, _, rfl⟩, by decide⟩
def Y_X4_goesOn : MY := (yX4_goesOn, cX4_goesOn, 2, some .boolean)
theorem cm_X4_goesOn : CMV Y_X4_goesOn 1 4 := ⟨⟨m_3_22, m_1_7, ⟨by decide +kernel, by decide +kernel, by decide +kernel⟩, by decide⟩, m_3_21, ms_7, ⟨_, _, rfl⟩, by decide⟩
def Y_X4_makesPairWith : MY := (yX4_makesPairWith, cX4_makesPairWith, 2, some .boolean)
theorem cm_X4_makesPairWith : CMV Y_X4_makesPairWith 1 4 := ⟨⟨m_3_18, m_1_7, ⟨by decide +kernel, by decide +kernel, by decide +kernel⟩, by decide⟩, m_3_16, m_3_17, ⟨_, _, rfl⟩, by decide⟩
def Y_X4_goodWith : MY := (yX4_goodWith, cX4_goodWith, 3, some .int)
theorem cm_X4_goodWith : CMV Y_X4_goodWith 1 4 := ⟨⟨m_3_41, m_1_7, ⟨by decide +kernel, by decide +kernel, by decide +kernel⟩, by decide⟩, m_3_39, m_3_40, ⟨_, _, rfl⟩, by decide⟩
def Y_X4_tell : MY := (yX4_tell, cX4_tell, 2, some .int)
theorem cm_X4_tell : CMV Y_X4_tell 1 4 := ⟨⟨m_2_227, m_1_7, ⟨by decide +kernel, by decide +kernel, by decide +kernel⟩, by decide⟩, m_2_225, m_2_226, ⟨_, _, rfl⟩, by decide⟩
def Y_X5_isWellTold : MY := (yX5_isWellTold, cX5_isWellTold, 8, some .boolean)
theorem cm_X5_isWellTold : CMV Y_X5_isWellTold 4 5 := ⟨⟨m_3_224, m_1_10, ⟨by decide +kernel, by decide +kernel, by decide +kernel⟩, by decide⟩, m_3_222, m_3_223, ⟨_, _, rfl⟩, by decide⟩
def Y_X5_agrees : MY := (yX5_agrees, cX5_agrees, 6, some .boolean)
theorem cm_X5_agrees : CMV Y_X5_agrees 3 5 := ⟨⟨m_3_235, m_1_10, ⟨by decide +kernel, by decide +kernel, by decide +kernel⟩, by decide⟩, m_3_234, ms_14, ⟨_, _, rfl⟩, by decide⟩
def Y_X5_sortsLeft : MY := (yX5_sortsLeft, cX5_sortsLeft, 7, some .int)
theorem cm_X5_sortsLeft : CMV Y_X5_sortsLeft 4 5 := ⟨⟨m_3_231, m_1_10, ⟨by decide +kernel, by decide +kernel, by decide +kernel⟩, by decide⟩, m_3_229, m_3_230, ⟨_, _, rfl⟩, by decide⟩
def Y_X5_handsLeft : MY := (yX5_handsLeft, cX5_handsLeft, 7, some .int)
theorem cm_X5_handsLeft : CMV Y_X5_handsLeft 4 5 := ⟨⟨m_4_3, m_1_10, ⟨by decide +kernel, by decide +kernel, by decide +kernel⟩, by decide⟩, m_4_1, m_4_2, ⟨_, _, rfl⟩, by decide⟩
def Y_X5_kindsLeft : MY := (yX5_kindsLeft, cX5_kindsLeft, 7, some .int)
theorem cm_X5_kindsLeft : CMV Y_X5_kindsLeft 4 5 := ⟨⟨m_4_11, m_1_10, ⟨by decide +kernel, by decide +kernel, by decide +kernel⟩, by decide⟩, m_4_9, m_4_10, ⟨_, _, rfl⟩, by decide⟩
def Y_X5_nextTry : MY := (yX5_nextTry, cX5_nextTry, 8, some .int)
theorem cm_X5_nextTry : CMV Y_X5_nextTry 3 5 := ⟨⟨m_4_19, m_1_10, ⟨by decide +kernel, by decide +kernel, by decide +kernel⟩, by decide⟩, m_4_17, m_4_18, ⟨_, _, rfl⟩, by decide⟩
def Y_X5_greatestPart : MY := (yX5_greatestPart, cX5_greatestPart, 7, some .int)
theorem cm_X5_greatestPart : CMV Y_X5_greatestPart 4 5 := ⟨⟨m_4_23, m_1_10, ⟨by decide +kernel, by decide +kernel, by decide +kernel⟩, by decide⟩, m_4_21, m_4_22, ⟨_, _, rfl⟩, by decide⟩
def Y_X5_howManyLike : MY := (yX5_howManyLike, cX5_howManyLike, 5, some .int)
theorem cm_X5_howManyLike : CMV Y_X5_howManyLike 2 5 := ⟨⟨m_4_27, m_1_10, ⟨by decide +kernel, by decide +kernel, by decide +kernel⟩, by decide⟩, m_4_26, ms_15, ⟨_, _, rfl⟩, by decide⟩
def Y_X5_gainOfStretch : MY := (yX5_gainOfStretch, cX5_gainOfStretch, 5, some .int)
theorem cm_X5_gainOfStretch : CMV Y_X5_gainOfStretch 2 5 := ⟨⟨m_3_32, m_1_10, ⟨by decide +kernel, by decide +kernel, by decide +kernel⟩, by decide⟩, m_3_30, m_3_31, ⟨_, _, rfl⟩, by decide⟩
def Y_X6_weigh : MY := (yX6_weigh, cX6_weigh, 4, none)
theorem cm_X6_weigh : CMV Y_X6_weigh 1 6 := ⟨⟨m_3_131, m_1_8, ⟨by decide +kernel, by decide +kernel, by decide +kernel⟩, by decide⟩, m_3_129, m_3_130, ⟨_, _, rfl⟩, by decide⟩
def Y_X6_weighWith : MY := (yX6_weighWith, cX6_weighWith, 7, none)
theorem cm_X6_weighWith : CMV Y_X6_weighWith 2 6 := ⟨⟨m_3_136, m_1_8, ⟨by decide +kernel, by decide +kernel, by decide +kernel⟩, by decide⟩, m_3_135, ms_8, ⟨_, _, rfl⟩, by decide⟩
def Y_X6_partTo : MY := (yX6_partTo, cX6_partTo, 7, none)
theorem cm_X6_partTo : CMV Y_X6_partTo 3 6 := ⟨⟨m_3_145, m_1_8, ⟨by decide +kernel, by decide +kernel, by decide +kernel⟩, by decide⟩, m_3_143, m_3_144, ⟨_, _, rfl⟩, by decide⟩
def Y_X6_firstMate : MY := (yX6_firstMate, cX6_firstMate, 7, some .int)
theorem cm_X6_firstMate : CMV Y_X6_firstMate 3 6 := ⟨⟨m_3_152, m_1_8, ⟨by decide +kernel, by decide +kernel, by decide +kernel⟩, by decide⟩, m_3_151, ms_9, ⟨_, _, rfl⟩, by decide⟩
def Y_X6_safestSet : MY := (yX6_safestSet, cX6_safestSet, 6, some .int)
theorem cm_X6_safestSet : CMV Y_X6_safestSet 1 6 := ⟨⟨m_3_195, m_1_8, ⟨by decide +kernel, by decide +kernel, by decide +kernel⟩, by decide⟩, m_3_193, m_3_194, ⟨_, _, rfl⟩, by decide⟩
def Y_X6_isSafer : MY := (yX6_isSafer, cX6_isSafer, 6, some .boolean)
theorem cm_X6_isSafer : CMV Y_X6_isSafer 3 6 := ⟨⟨m_3_200, m_1_8, ⟨by decide +kernel, by decide +kernel, by decide +kernel⟩, by decide⟩, m_3_199, ms_12, ⟨_, _, rfl⟩, by decide⟩
def Y_X6_afterWorstLoss : MY := (yX6_afterWorstLoss, cX6_afterWorstLoss, 5, some .int)
theorem cm_X6_afterWorstLoss : CMV Y_X6_afterWorstLoss 2 6 := ⟨⟨m_3_204, m_1_8, ⟨by decide +kernel, by decide +kernel, by decide +kernel⟩, by decide⟩, m_3_202, m_3_203, ⟨_, _, rfl⟩, by decide⟩
def Y_X6_markSetsOf : MY := (yX6_markSetsOf, cX6_markSetsOf, 3, none)
theorem cm_X6_markSetsOf : CMV Y_X6_markSetsOf 1 6 := ⟨⟨m_4_54, m_1_8, ⟨by decide +kernel, by decide +kernel, by decide +kernel⟩, by decide⟩, m_4_52, m_4_53, ⟨_, _, rfl⟩, by decide⟩
def Y_X7_faultOf : MY := (yX7_faultOf, cX7_faultOf, 6, some .int)
theorem cm_X7_faultOf : CMV Y_X7_faultOf 2 7 := ⟨⟨m_2_182, m_1_4, ⟨by decide +kernel, by decide +kernel, by decide +kernel⟩, by decide⟩, m_2_180, m_2_181, ⟨_, _, rfl⟩, by decide⟩
def Y_X7_faultOfGlove : MY := (yX7_faultOfGlove, cX7_faultOfGlove, 4, some .int)
theorem cm_X7_faultOfGlove : CMV Y_X7_faultOfGlove 3 7 := ⟨⟨m_2_195, m_1_4, ⟨by decide +kernel, by decide +kernel, by decide +kernel⟩, by decide⟩, m_2_194, ms_5, ⟨_, _, rfl⟩, by decide⟩
def Y_X7_pastBlanks : MY := (yX7_pastBlanks, cX7_pastBlanks, 5, some .int)
theorem cm_X7_pastBlanks : CMS Y_X7_pastBlanks 3 := ⟨⟨m_2_186, m_1_4, ⟨by decide +kernel, by decide +kernel, by decide +kernel⟩, by decide⟩, m_2_185⟩
def Y_X7_figure : MY := (yX7_figure, cX7_figure, 6, some .int)
theorem cm_X7_figure : CMS Y_X7_figure 5 := ⟨⟨m_2_190, m_1_4, ⟨by decide +kernel, by decide +kernel, by decide +kernel⟩, by decide⟩, m_2_189⟩
def Y_X7_kindOf : MY := (yX7_kindOf, cX7_kindOf, 1, some .int)
theorem cm_X7_kindOf : CMS Y_X7_kindOf 1 := ⟨⟨m_2_198, m_1_4, ⟨by decide +kernel, by decide +kernel, by decide +kernel⟩, by decide⟩, m_2_197⟩
def Y_X8_leadAfter : MY := (yX8_leadAfter, cX8_leadAfter, 5, some .int)
theorem cm_X8_leadAfter : CMV Y_X8_leadAfter 3 8 := ⟨⟨m_4_37, m_1_11, ⟨by decide +kernel, by decide +kernel, by decide +kernel⟩, by decide⟩, m_4_35, m_4_36, ⟨_, _, rfl⟩, by decide⟩
def Y_X8_lead : MY := (yX8_lead, cX8_lead, 10, some .int)
theorem cm_X8_lead : CMS Y_X8_lead 6 := ⟨⟨m_4_41, m_1_11, ⟨by decide +kernel, by decide +kernel, by decide +kernel⟩, by decide⟩, m_4_40⟩
def Y_X9_isNumber : MY := (yX9_isNumber, cX9_isNumber, 2, some .boolean)
theorem cm_X9_isNumber : CMV Y_X9_isNumber 1 9 := ⟨⟨m_2_78, m_1_2, ⟨by decide +kernel, by decide +kernel, by decide +kernel⟩, by decide⟩, m_2_76, m_2_77, ⟨_, _, rfl⟩, by decide⟩
def Y_X9_sizeOf : MY := (yX9_sizeOf, cX9_sizeOf, 2, some .int)
theorem cm_X9_sizeOf : CMV Y_X9_sizeOf 1 9 := ⟨⟨m_2_107, m_1_2, ⟨by decide +kernel, by decide +kernel, by decide +kernel⟩, by decide⟩, m_2_105, m_2_106, ⟨_, _, rfl⟩, by decide⟩
def Y_X9_isThere : MY := (yX9_isThere, cX9_isThere, 2, some .boolean)
theorem cm_X9_isThere : CMV Y_X9_isThere 1 9 := ⟨⟨m_2_103, m_1_2, ⟨by decide +kernel, by decide +kernel, by decide +kernel⟩, by decide⟩, m_2_101, m_2_102, ⟨_, _, rfl⟩, by decide⟩
def Y_X9_holds : MY := (yX9_holds, cX9_holds, 3, some .boolean)
theorem cm_X9_holds : CMV Y_X9_holds 2 9 := ⟨⟨m_2_111, m_1_2, ⟨by decide +kernel, by decide +kernel, by decide +kernel⟩, by decide⟩, m_2_109, m_2_110, ⟨_, _, rfl⟩, by decide⟩
def Y_X9_reaches : MY := (yX9_reaches, cX9_reaches, 5, some .boolean)
theorem cm_X9_reaches : CMV Y_X9_reaches 3 9 := ⟨⟨m_2_144, m_1_2, ⟨by decide +kernel, by decide +kernel, by decide +kernel⟩, by decide⟩, m_2_142, m_2_143, ⟨_, _, rfl⟩, by decide⟩
def Y_X9_begin : MY := (yX9_begin, cX9_begin, 4, none)
theorem cm_X9_begin : CMV Y_X9_begin 2 9 := ⟨⟨m_2_86, m_1_2, ⟨by decide +kernel, by decide +kernel, by decide +kernel⟩, by decide⟩, m_2_84, m_2_85, ⟨_, _, rfl⟩, by decide⟩
def Y_X9_drop : MY := (yX9_drop, cX9_drop, 2, none)
theorem cm_X9_drop : CMV Y_X9_drop 1 9 := ⟨⟨m_2_136, m_1_2, ⟨by decide +kernel, by decide +kernel, by decide +kernel⟩, by decide⟩, m_2_134, m_2_135, ⟨_, _, rfl⟩, by decide⟩
def Y_X9_read : MY := (yX9_read, cX9_read, 3, some .int)
theorem cm_X9_read : CMV Y_X9_read 2 9 := ⟨⟨m_2_115, m_1_2, ⟨by decide +kernel, by decide +kernel, by decide +kernel⟩, by decide⟩, m_2_113, m_2_114, ⟨_, _, rfl⟩, by decide⟩
def Y_X9_write : MY := (yX9_write, cX9_write, 4, none)
theorem cm_X9_write : CMV Y_X9_write 3 9 := ⟨⟨m_2_120, m_1_2, ⟨by decide +kernel, by decide +kernel, by decide +kernel⟩, by decide⟩, m_2_118, m_2_119, ⟨_, _, rfl⟩, by decide⟩
def Y_X9_move : MY := (yX9_move, cX9_move, 6, none)
theorem cm_X9_move : CMV Y_X9_move 5 9 := ⟨⟨m_2_148, m_1_2, ⟨by decide +kernel, by decide +kernel, by decide +kernel⟩, by decide⟩, m_2_146, m_2_147, ⟨_, _, rfl⟩, by decide⟩
def Y_X9_total : MY := (yX9_total, cX9_total, 5, some .long)
theorem cm_X9_total : CMV Y_X9_total 1 9 := ⟨⟨m_2_161, m_1_2, ⟨by decide +kernel, by decide +kernel, by decide +kernel⟩, by decide⟩, m_2_159, m_2_160, ⟨_, _, rfl⟩, by decide⟩
def Y_X9_howManyThere : MY := (yX9_howManyThere, cX9_howManyThere, 3, some .int)
theorem cm_X9_howManyThere : CMV Y_X9_howManyThere 0 9 := ⟨⟨m_4_123, m_1_2, ⟨by decide +kernel, by decide +kernel, by decide +kernel⟩, by decide⟩, m_4_121, m_4_122, ⟨_, _, rfl⟩, by decide⟩
def Y_X9_digestOn : MY := (yX9_digestOn, cX9_digestOn, 5, some .long)
theorem cm_X9_digestOn : CMV Y_X9_digestOn 1 9 := ⟨⟨m_4_147, m_1_2, ⟨by decide +kernel, by decide +kernel, by decide +kernel⟩, by decide⟩, m_4_145, m_4_146, ⟨_, _, rfl⟩, by decide⟩
def Y_J6_bitCount_0f7a4 : MY := (yJ6_bitCount_0f7a4, cJ6_bitCount_0f7a4, 1, some .int)
theorem cm_J6_bitCount_0f7a4 : CMS Y_J6_bitCount_0f7a4 1 := ⟨⟨m_3_86, m_1_15, ⟨by decide +kernel, by decide +kernel, by decide +kernel⟩, by decide⟩, m_3_85⟩
end
section
theorem dX4_init_0 : decode cX4_init 0 = .ok (.aload_n 0, 1) := by decide +kernel
theorem dX4_init_1 : decode cX4_init 1 = .ok (.invokespecial 3, 3) := by decide +kernel
theorem dX4_init_4 : decode cX4_init 4 = .ok (.return_, 1) := by decide +kernel
theorem dX4_becomeLike_0 : decode cX4_becomeLike 0 = .ok (.aload_n 0, 1) := by decide +kernel
theorem dX4_becomeLike_1 : decode cX4_becomeLike 1 = .ok (.aload_n 1, 1) := by decide +kernel
theorem dX4_becomeLike_2 : decode cX4_becomeLike 2 = .ok (.getfield 9, 3) := by decide +kernel
theorem dX4_becomeLike_5 : decode cX4_becomeLike 5 = .ok (.putfield 9, 3) := by decide +kernel
theorem dX4_becomeLike_8 : decode cX4_becomeLike 8 = .ok (.aload_n 0, 1) := by decide +kernel
theorem dX4_becomeLike_9 : decode cX4_becomeLike 9 = .ok (.aload_n 1, 1) := by decide +kernel
theorem dX4_becomeLike_10 : decode cX4_becomeLike 10 = .ok (.getfield 15, 3) := by decide +kernel
theorem dX4_becomeLike_13 : decode cX4_becomeLike 13 = .ok (.putfield 15, 3) := by decide +kernel
theorem dX4_becomeLike_16 : decode cX4_becomeLike 16 = .ok (.aload_n 0, 1) := by decide +kernel
theorem dX4_becomeLike_17 : decode cX4_becomeLike 17 = .ok (.aload_n 1, 1) := by decide +kernel
theorem dX4_becomeLike_18 : decode cX4_becomeLike 18 = .ok (.getfield 18, 3) := by decide +kernel
theorem dX4_becomeLike_21 : decode cX4_becomeLike 21 = .ok (.putfield 18, 3) := by decide +kernel
theorem dX4_becomeLike_24 : decode cX4_becomeLike 24 = .ok (.aload_n 0, 1) := by decide +kernel
theorem dX4_becomeLike_25 : decode cX4_becomeLike 25 = .ok (.aload_n 1, 1) := by decide +kernel
theorem dX4_becomeLike_26 : decode cX4_becomeLike 26 = .ok (.getfield 21, 3) := by decide +kernel
theorem dX4_becomeLike_29 : decode cX4_becomeLike 29 = .ok (.putfield 21, 3) := by decide +kernel
theorem dX4_becomeLike_32 : decode cX4_becomeLike 32 = .ok (.aload_n 0, 1) := by decide +kernel
theorem dX4_becomeLike_33 : decode cX4_becomeLike 33 = .ok (.aload_n 1, 1) := by decide +kernel
theorem dX4_becomeLike_34 : decode cX4_becomeLike 34 = .ok (.getfield 24, 3) := by decide +kernel
theorem dX4_becomeLike_37 : decode cX4_becomeLike 37 = .ok (.putfield 24, 3) := by decide +kernel
theorem dX4_becomeLike_40 : decode cX4_becomeLike 40 = .ok (.aload_n 0, 1) := by decide +kernel
theorem dX4_becomeLike_41 : decode cX4_becomeLike 41 = .ok (.aload_n 1, 1) := by decide +kernel
theorem dX4_becomeLike_42 : decode cX4_becomeLike 42 = .ok (.getfield 27, 3) := by decide +kernel
theorem dX4_becomeLike_45 : decode cX4_becomeLike 45 = .ok (.putfield 27, 3) := by decide +kernel
theorem dX4_becomeLike_48 : decode cX4_becomeLike 48 = .ok (.return_, 1) := by decide +kernel
theorem dX4_isOf_0 : decode cX4_isOf 0 = .ok (.iload_n 1, 1) := by decide +kernel
theorem dX4_isOf_1 : decode cX4_isOf 1 = .ok (.aload_n 0, 1) := by decide +kernel
theorem dX4_isOf_2 : decode cX4_isOf 2 = .ok (.getfield 9, 3) := by decide +kernel
theorem dX4_isOf_5 : decode cX4_isOf 5 = .ok (.if_icmp .eq 33, 3) := by decide +kernel
theorem dX4_isOf_8 : decode cX4_isOf 8 = .ok (.iload_n 1, 1) := by decide +kernel
theorem dX4_isOf_9 : decode cX4_isOf 9 = .ok (.ifCond .eq 29, 3) := by decide +kernel
theorem dX4_isOf_12 : decode cX4_isOf 12 = .ok (.iload_n 1, 1) := by decide +kernel
theorem dX4_isOf_13 : decode cX4_isOf 13 = .ok (.iconst 1, 1) := by decide +kernel
theorem dX4_isOf_14 : decode cX4_isOf 14 = .ok (.if_icmp .ne 11, 3) := by decide +kernel
theorem dX4_isOf_17 : decode cX4_isOf 17 = .ok (.aload_n 0, 1) := by decide +kernel
theorem dX4_isOf_18 : decode cX4_isOf 18 = .ok (.getfield 9, 3) := by decide +kernel
theorem dX4_isOf_21 : decode cX4_isOf 21 = .ok (.iconst 4, 1) := by decide +kernel
theorem dX4_isOf_22 : decode cX4_isOf 22 = .ok (.if_icmp .eq 16, 3) := by decide +kernel
theorem dX4_isOf_25 : decode cX4_isOf 25 = .ok (.iload_n 1, 1) := by decide +kernel
theorem dX4_isOf_26 : decode cX4_isOf 26 = .ok (.iconst 2, 1) := by decide +kernel
theorem dX4_isOf_27 : decode cX4_isOf 27 = .ok (.if_icmp .ne 15, 3) := by decide +kernel
theorem dX4_isOf_30 : decode cX4_isOf 30 = .ok (.aload_n 0, 1) := by decide +kernel
theorem dX4_isOf_31 : decode cX4_isOf 31 = .ok (.getfield 9, 3) := by decide +kernel
theorem dX4_isOf_34 : decode cX4_isOf 34 = .ok (.iconst 5, 1) := by decide +kernel
theorem dX4_isOf_35 : decode cX4_isOf 35 = .ok (.if_icmp .ne 7, 3) := by decide +kernel
theorem dX4_isOf_38 : decode cX4_isOf 38 = .ok (.iconst 1, 1) := by decide +kernel
theorem dX4_isOf_39 : decode cX4_isOf 39 = .ok (.goto 4, 3) := by decide +kernel
theorem dX4_isOf_42 : decode cX4_isOf 42 = .ok (.iconst 0, 1) := by decide +kernel
theorem dX4_isOf_43 : decode cX4_isOf 43 = .ok (.ireturn, 1) := by decide +kernel
theorem dX4_bareWarmth_0 : decode cX4_bareWarmth 0 = .ok (.iconst 0, 1) := by decide +kernel
theorem dX4_bareWarmth_1 : decode cX4_bareWarmth 1 = .ok (.aload_n 0, 1) := by decide +kernel
theorem dX4_bareWarmth_2 : decode cX4_bareWarmth 2 = .ok (.getfield 21, 3) := by decide +kernel
theorem dX4_bareWarmth_5 : decode cX4_bareWarmth 5 = .ok (.aload_n 0, 1) := by decide +kernel
theorem dX4_bareWarmth_6 : decode cX4_bareWarmth 6 = .ok (.getfield 24, 3) := by decide +kernel
theorem dX4_bareWarmth_9 : decode cX4_bareWarmth 9 = .ok (.iconst 3, 1) := by decide +kernel
theorem dX4_bareWarmth_10 : decode cX4_bareWarmth 10 = .ok (.idiv, 1) := by decide +kernel
theorem dX4_bareWarmth_11 : decode cX4_bareWarmth 11 = .ok (.isub, 1) := by decide +kernel
theorem dX4_bareWarmth_12 : decode cX4_bareWarmth 12 = .ok (.invokestatic 30, 3) := by decide +kernel
theorem dX4_bareWarmth_15 : decode cX4_bareWarmth 15 = .ok (.ireturn, 1) := by decide +kernel
theorem dX4_warmth_0 : decode cX4_warmth 0 = .ok (.aload_n 0, 1) := by decide +kernel
theorem dX4_warmth_1 : decode cX4_warmth 1 = .ok (.invokevirtual 36, 3) := by decide +kernel
theorem dX4_warmth_4 : decode cX4_warmth 4 = .ok (.istore_n 1, 1) := by decide +kernel
theorem dX4_warmth_5 : decode cX4_warmth 5 = .ok (.aload_n 0, 1) := by decide +kernel
theorem dX4_warmth_6 : decode cX4_warmth 6 = .ok (.getfield 9, 3) := by decide +kernel
theorem dX4_warmth_9 : decode cX4_warmth 9 = .ok (.tableswitch 64 1 5 #[35, 39, 64, 47, 39], 35) := by decide +kernel
theorem dX4_warmth_44 : decode cX4_warmth 44 = .ok (.iload_n 1, 1) := by decide +kernel
theorem dX4_warmth_45 : decode cX4_warmth 45 = .ok (.iconst 2, 1) := by decide +kernel
theorem dX4_warmth_46 : decode cX4_warmth 46 = .ok (.iadd, 1) := by decide +kernel
theorem dX4_warmth_47 : decode cX4_warmth 47 = .ok (.ireturn, 1) := by decide +kernel
theorem dX4_warmth_48 : decode cX4_warmth 48 = .ok (.iconst 0, 1) := by decide +kernel
theorem dX4_warmth_49 : decode cX4_warmth 49 = .ok (.iload_n 1, 1) := by decide +kernel
theorem dX4_warmth_50 : decode cX4_warmth 50 = .ok (.iconst 1, 1) := by decide +kernel
theorem dX4_warmth_51 : decode cX4_warmth 51 = .ok (.isub, 1) := by decide +kernel
theorem dX4_warmth_52 : decode cX4_warmth 52 = .ok (.invokestatic 30, 3) := by decide +kernel
theorem dX4_warmth_55 : decode cX4_warmth 55 = .ok (.ireturn, 1) := by decide +kernel
theorem dX4_warmth_56 : decode cX4_warmth 56 = .ok (.aload_n 0, 1) := by decide +kernel
theorem dX4_warmth_57 : decode cX4_warmth 57 = .ok (.getfield 24, 3) := by decide +kernel
theorem dX4_warmth_60 : decode cX4_warmth 60 = .ok (.bipush 6, 2) := by decide +kernel
theorem dX4_warmth_62 : decode cX4_warmth 62 = .ok (.if_icmp .ge 9, 3) := by decide +kernel
theorem dX4_warmth_65 : decode cX4_warmth 65 = .ok (.iload_n 1, 1) := by decide +kernel
theorem dX4_warmth_66 : decode cX4_warmth 66 = .ok (.iconst 3, 1) := by decide +kernel
theorem dX4_warmth_67 : decode cX4_warmth 67 = .ok (.iadd, 1) := by decide +kernel
theorem dX4_warmth_68 : decode cX4_warmth 68 = .ok (.goto 4, 3) := by decide +kernel
theorem dX4_warmth_71 : decode cX4_warmth 71 = .ok (.iload_n 1, 1) := by decide +kernel
theorem dX4_warmth_72 : decode cX4_warmth 72 = .ok (.ireturn, 1) := by decide +kernel
theorem dX4_warmth_73 : decode cX4_warmth 73 = .ok (.iload_n 1, 1) := by decide +kernel
theorem dX4_warmth_74 : decode cX4_warmth 74 = .ok (.ireturn, 1) := by decide +kernel
theorem dX4_goesOn_0 : decode cX4_goesOn 0 = .ok (.aload_n 0, 1) := by decide +kernel
theorem dX4_goesOn_1 : decode cX4_goesOn 1 = .ok (.getfield 18, 3) := by decide +kernel
theorem dX4_goesOn_4 : decode cX4_goesOn 4 = .ok (.iload_n 1, 1) := by decide +kernel
theorem dX4_goesOn_5 : decode cX4_goesOn 5 = .ok (.if_icmp .eq 11, 3) := by decide +kernel
theorem dX4_goesOn_8 : decode cX4_goesOn 8 = .ok (.aload_n 0, 1) := by decide +kernel
theorem dX4_goesOn_9 : decode cX4_goesOn 9 = .ok (.iconst 2, 1) := by decide +kernel
theorem dX4_goesOn_10 : decode cX4_goesOn 10 = .ok (.invokevirtual 40, 3) := by decide +kernel
theorem dX4_goesOn_13 : decode cX4_goesOn 13 = .ok (.ifCond .eq 7, 3) := by decide +kernel
theorem dX4_goesOn_16 : decode cX4_goesOn 16 = .ok (.iconst 1, 1) := by decide +kernel
theorem dX4_goesOn_17 : decode cX4_goesOn 17 = .ok (.goto 4, 3) := by decide +kernel
theorem dX4_goesOn_20 : decode cX4_goesOn 20 = .ok (.iconst 0, 1) := by decide +kernel
theorem dX4_goesOn_21 : decode cX4_goesOn 21 = .ok (.ireturn, 1) := by decide +kernel
theorem dX4_makesPairWith_0 : decode cX4_makesPairWith 0 = .ok (.aload_n 0, 1) := by decide +kernel
theorem dX4_makesPairWith_1 : decode cX4_makesPairWith 1 = .ok (.iconst 0, 1) := by decide +kernel
theorem dX4_makesPairWith_2 : decode cX4_makesPairWith 2 = .ok (.invokevirtual 44, 3) := by decide +kernel
theorem dX4_makesPairWith_5 : decode cX4_makesPairWith 5 = .ok (.ifCond .eq 11, 3) := by decide +kernel
theorem dX4_makesPairWith_8 : decode cX4_makesPairWith 8 = .ok (.aload_n 1, 1) := by decide +kernel
theorem dX4_makesPairWith_9 : decode cX4_makesPairWith 9 = .ok (.iconst 1, 1) := by decide +kernel
theorem dX4_makesPairWith_10 : decode cX4_makesPairWith 10 = .ok (.invokevirtual 44, 3) := by decide +kernel
theorem dX4_makesPairWith_13 : decode cX4_makesPairWith 13 = .ok (.ifCond .ne 19, 3) := by decide +kernel
theorem dX4_makesPairWith_16 : decode cX4_makesPairWith 16 = .ok (.aload_n 0, 1) := by decide +kernel
theorem dX4_makesPairWith_17 : decode cX4_makesPairWith 17 = .ok (.iconst 1, 1) := by decide +kernel
theorem dX4_makesPairWith_18 : decode cX4_makesPairWith 18 = .ok (.invokevirtual 44, 3) := by decide +kernel
theorem dX4_makesPairWith_21 : decode cX4_makesPairWith 21 = .ok (.ifCond .eq 15, 3) := by decide +kernel
theorem dX4_makesPairWith_24 : decode cX4_makesPairWith 24 = .ok (.aload_n 1, 1) := by decide +kernel
theorem dX4_makesPairWith_25 : decode cX4_makesPairWith 25 = .ok (.iconst 0, 1) := by decide +kernel
theorem dX4_makesPairWith_26 : decode cX4_makesPairWith 26 = .ok (.invokevirtual 44, 3) := by decide +kernel
theorem dX4_makesPairWith_29 : decode cX4_makesPairWith 29 = .ok (.ifCond .eq 7, 3) := by decide +kernel
theorem dX4_makesPairWith_32 : decode cX4_makesPairWith 32 = .ok (.iconst 1, 1) := by decide +kernel
theorem dX4_makesPairWith_33 : decode cX4_makesPairWith 33 = .ok (.goto 4, 3) := by decide +kernel
theorem dX4_makesPairWith_36 : decode cX4_makesPairWith 36 = .ok (.iconst 0, 1) := by decide +kernel
theorem dX4_makesPairWith_37 : decode cX4_makesPairWith 37 = .ok (.ireturn, 1) := by decide +kernel
theorem dX4_goodWith_0 : decode cX4_goodWith 0 = .ok (.aload_n 0, 1) := by decide +kernel
theorem dX4_goodWith_1 : decode cX4_goodWith 1 = .ok (.aload_n 1, 1) := by decide +kernel
theorem dX4_goodWith_2 : decode cX4_goodWith 2 = .ok (.invokevirtual 47, 3) := by decide +kernel
theorem dX4_goodWith_5 : decode cX4_goodWith 5 = .ok (.ifCond .ne 6, 3) := by decide +kernel
theorem dX4_goodWith_8 : decode cX4_goodWith 8 = .ok (.bipush (-9), 2) := by decide +kernel
theorem dX4_goodWith_10 : decode cX4_goodWith 10 = .ok (.ireturn, 1) := by decide +kernel
theorem dX4_goodWith_11 : decode cX4_goodWith 11 = .ok (.aload_n 0, 1) := by decide +kernel
theorem dX4_goodWith_12 : decode cX4_goodWith 12 = .ok (.invokevirtual 51, 3) := by decide +kernel
theorem dX4_goodWith_15 : decode cX4_goodWith 15 = .ok (.aload_n 1, 1) := by decide +kernel
theorem dX4_goodWith_16 : decode cX4_goodWith 16 = .ok (.invokevirtual 51, 3) := by decide +kernel
theorem dX4_goodWith_19 : decode cX4_goodWith 19 = .ok (.iadd, 1) := by decide +kernel
theorem dX4_goodWith_20 : decode cX4_goodWith 20 = .ok (.istore_n 2, 1) := by decide +kernel
theorem dX4_goodWith_21 : decode cX4_goodWith 21 = .ok (.aload_n 0, 1) := by decide +kernel
theorem dX4_goodWith_22 : decode cX4_goodWith 22 = .ok (.getfield 9, 3) := by decide +kernel
theorem dX4_goodWith_25 : decode cX4_goodWith 25 = .ok (.iconst 5, 1) := by decide +kernel
theorem dX4_goodWith_26 : decode cX4_goodWith 26 = .ok (.if_icmp .eq 11, 3) := by decide +kernel
theorem dX4_goodWith_29 : decode cX4_goodWith 29 = .ok (.aload_n 1, 1) := by decide +kernel
theorem dX4_goodWith_30 : decode cX4_goodWith 30 = .ok (.getfield 9, 3) := by decide +kernel
theorem dX4_goodWith_33 : decode cX4_goodWith 33 = .ok (.iconst 5, 1) := by decide +kernel
theorem dX4_goodWith_34 : decode cX4_goodWith 34 = .ok (.if_icmp .ne 5, 3) := by decide +kernel
theorem dX4_goodWith_37 : decode cX4_goodWith 37 = .ok (.iload_n 2, 1) := by decide +kernel
theorem dX4_goodWith_38 : decode cX4_goodWith 38 = .ok (.ireturn, 1) := by decide +kernel
theorem dX4_goodWith_39 : decode cX4_goodWith 39 = .ok (.iconst 0, 1) := by decide +kernel
theorem dX4_goodWith_40 : decode cX4_goodWith 40 = .ok (.iload_n 2, 1) := by decide +kernel
theorem dX4_goodWith_41 : decode cX4_goodWith 41 = .ok (.iconst 2, 1) := by decide +kernel
theorem dX4_goodWith_42 : decode cX4_goodWith 42 = .ok (.aload_n 0, 1) := by decide +kernel
theorem dX4_goodWith_43 : decode cX4_goodWith 43 = .ok (.getfield 15, 3) := by decide +kernel
theorem dX4_goodWith_46 : decode cX4_goodWith 46 = .ok (.aload_n 1, 1) := by decide +kernel
theorem dX4_goodWith_47 : decode cX4_goodWith 47 = .ok (.getfield 15, 3) := by decide +kernel
theorem dX4_goodWith_50 : decode cX4_goodWith 50 = .ok (.isub, 1) := by decide +kernel
theorem dX4_goodWith_51 : decode cX4_goodWith 51 = .ok (.invokestatic 54, 3) := by decide +kernel
theorem dX4_goodWith_54 : decode cX4_goodWith 54 = .ok (.imul, 1) := by decide +kernel
theorem dX4_goodWith_55 : decode cX4_goodWith 55 = .ok (.isub, 1) := by decide +kernel
theorem dX4_goodWith_56 : decode cX4_goodWith 56 = .ok (.invokestatic 30, 3) := by decide +kernel
theorem dX4_goodWith_59 : decode cX4_goodWith 59 = .ok (.ireturn, 1) := by decide +kernel
theorem dX4_tell_0 : decode cX4_tell 0 = .ok (.iload_n 1, 1) := by decide +kernel
theorem dX4_tell_1 : decode cX4_tell 1 = .ok (.tableswitch 69 0 5 #[39, 44, 49, 54, 59, 64], 39) := by decide +kernel
theorem dX4_tell_40 : decode cX4_tell 40 = .ok (.aload_n 0, 1) := by decide +kernel
theorem dX4_tell_41 : decode cX4_tell 41 = .ok (.getfield 9, 3) := by decide +kernel
theorem dX4_tell_44 : decode cX4_tell 44 = .ok (.ireturn, 1) := by decide +kernel
theorem dX4_tell_45 : decode cX4_tell 45 = .ok (.aload_n 0, 1) := by decide +kernel
theorem dX4_tell_46 : decode cX4_tell 46 = .ok (.getfield 15, 3) := by decide +kernel
theorem dX4_tell_49 : decode cX4_tell 49 = .ok (.ireturn, 1) := by decide +kernel
theorem dX4_tell_50 : decode cX4_tell 50 = .ok (.aload_n 0, 1) := by decide +kernel
theorem dX4_tell_51 : decode cX4_tell 51 = .ok (.getfield 18, 3) := by decide +kernel
theorem dX4_tell_54 : decode cX4_tell 54 = .ok (.ireturn, 1) := by decide +kernel
theorem dX4_tell_55 : decode cX4_tell 55 = .ok (.aload_n 0, 1) := by decide +kernel
theorem dX4_tell_56 : decode cX4_tell 56 = .ok (.getfield 21, 3) := by decide +kernel
theorem dX4_tell_59 : decode cX4_tell 59 = .ok (.ireturn, 1) := by decide +kernel
theorem dX4_tell_60 : decode cX4_tell 60 = .ok (.aload_n 0, 1) := by decide +kernel
theorem dX4_tell_61 : decode cX4_tell 61 = .ok (.getfield 24, 3) := by decide +kernel
theorem dX4_tell_64 : decode cX4_tell 64 = .ok (.ireturn, 1) := by decide +kernel
theorem dX4_tell_65 : decode cX4_tell 65 = .ok (.aload_n 0, 1) := by decide +kernel
theorem dX4_tell_66 : decode cX4_tell 66 = .ok (.invokevirtual 51, 3) := by decide +kernel
theorem dX4_tell_69 : decode cX4_tell 69 = .ok (.ireturn, 1) := by decide +kernel
theorem dX4_tell_70 : decode cX4_tell 70 = .ok (.aload_n 0, 1) := by decide +kernel
theorem dX4_tell_71 : decode cX4_tell 71 = .ok (.getfield 27, 3) := by decide +kernel
theorem dX4_tell_74 : decode cX4_tell 74 = .ok (.ireturn, 1) := by decide +kernel
end
section
abbrev C_X4_becomeLike (G : Glob) (th : Nat) (o1 : Nat) (M : Mem) (Q : Option Value → Mem → Prop) : Prop := WpM G 1 Y_X4_becomeLike [.ref (ad G th), .ref (ad G o1)] M Q
set_option maxRecDepth 20000 in
theorem v_X4_becomeLike {G : Glob} {th : Nat} {o1 : Nat} {M : Mem} {Q : Option Value → Mem → Prop} (hth : kd th = 4) (hk1 : kd o1 = 4) (h : (∀ M1 : Mem, M1 = upI M th 0 (M.1 o1 0) → (∀ M2 : Mem, M2 = upI M1 th 1 (M1.1 o1 1) → (∀ M3 : Mem, M3 = upI M2 th 2 (M2.1 o1 2) → (∀ M4 : Mem, M4 = upI M3 th 3 (M3.1 o1 3) → (∀ M5 : Mem, M5 = upI M4 th 4 (M4.1 o1 4) → (∀ M6 : Mem, M6 = upI M5 th 5 (M5.1 o1 5) → Q none M6))))))) : C_X4_becomeLike G th o1 M Q := by
  refine wp_enter (ls0 := [some (.ref (ad G th)), some (.ref (ad G o1))]) (by decide +kernel) (Nat.le_of_ble_eq_true rfl) rfl ?_
  refine wp_aload_n dX4_becomeLike_0 rfl rfl ?_
  refine wp_aload_n dX4_becomeLike_1 rfl rfl ?_
  refine wp_getI dX4_becomeLike_2 hk1 fb_4_0 m_1_109 ?_
  refine wp_putI dX4_becomeLike_5 hth fp_4_0 m_1_109 ?_
  refine wp_topM (fun M1 hM1 => ?_)
  replace h := h M1 hM1
  refine wp_aload_n dX4_becomeLike_8 rfl rfl ?_
  refine wp_aload_n dX4_becomeLike_9 rfl rfl ?_
  refine wp_getI dX4_becomeLike_10 hk1 fb_4_1 m_1_114 ?_
  refine wp_putI dX4_becomeLike_13 hth fp_4_1 m_1_114 ?_
  refine wp_topM (fun M2 hM2 => ?_)
  replace h := h M2 hM2
  refine wp_aload_n dX4_becomeLike_16 rfl rfl ?_
  refine wp_aload_n dX4_becomeLike_17 rfl rfl ?_
  refine wp_getI dX4_becomeLike_18 hk1 fb_4_2 m_1_117 ?_
  refine wp_putI dX4_becomeLike_21 hth fp_4_2 m_1_117 ?_
  refine wp_topM (fun M3 hM3 => ?_)
  replace h := h M3 hM3
  refine wp_aload_n dX4_becomeLike_24 rfl rfl ?_
  refine wp_aload_n dX4_becomeLike_25 rfl rfl ?_
  refine wp_getI dX4_becomeLike_26 hk1 fb_4_3 m_1_121 ?_
  refine wp_putI dX4_becomeLike_29 hth fp_4_3 m_1_121 ?_
  refine wp_topM (fun M4 hM4 => ?_)
  replace h := h M4 hM4
  refine wp_aload_n dX4_becomeLike_32 rfl rfl ?_
  refine wp_aload_n dX4_becomeLike_33 rfl rfl ?_
  refine wp_getI dX4_becomeLike_34 hk1 fb_4_4 m_1_123 ?_
  refine wp_putI dX4_becomeLike_37 hth fp_4_4 m_1_123 ?_
  refine wp_topM (fun M5 hM5 => ?_)
  replace h := h M5 hM5
  refine wp_aload_n dX4_becomeLike_40 rfl rfl ?_
  refine wp_aload_n dX4_becomeLike_41 rfl rfl ?_
  refine wp_getI dX4_becomeLike_42 hk1 fb_4_5 m_1_127 ?_
  refine wp_putI dX4_becomeLike_45 hth fp_4_5 m_1_127 ?_
  refine wp_topM (fun M6 hM6 => ?_)
  replace h := h M6 hM6
  exact wp_vret dX4_becomeLike_48 rfl h
abbrev C_X4_isOf (G : Glob) (th : Nat) (x1 : Int32) (M : Mem) (Q : Option Value → Mem → Prop) : Prop := WpM G 1 Y_X4_isOf [.ref (ad G th), .int x1] M Q
set_option maxRecDepth 20000 in
theorem v_X4_isOf {G : Glob} {th : Nat} {x1 : Int32} {M : Mem} {Q : Option Value → Mem → Prop} (hth : kd th = 4) (h : ((x1 = (M.1 th 0) → Q (some (.int 1)) M) ∧ (¬ x1 = (M.1 th 0) → ((x1 = 0 → Q (some (.int 1)) M) ∧ (¬ x1 = 0 → ((x1 = 1 → (((M.1 th 0) = 4 → Q (some (.int 1)) M) ∧ (¬ (M.1 th 0) = 4 → ((x1 = 2 → (((M.1 th 0) = 5 → Q (some (.int 1)) M) ∧ (¬ (M.1 th 0) = 5 → Q (some (.int 0)) M))) ∧ (¬ x1 = 2 → Q (some (.int 0)) M))))) ∧ (¬ x1 = 1 → ((x1 = 2 → (((M.1 th 0) = 5 → Q (some (.int 1)) M) ∧ (¬ (M.1 th 0) = 5 → Q (some (.int 0)) M))) ∧ (¬ x1 = 2 → Q (some (.int 0)) M))))))))) : C_X4_isOf G th x1 M Q := by
  refine wp_enter (ls0 := [some (.ref (ad G th)), some (.int x1)]) (by decide +kernel) (Nat.le_of_ble_eq_true rfl) rfl ?_
  refine wp_iload_n dX4_isOf_0 rfl rfl ?_
  refine wp_aload_n dX4_isOf_1 rfl rfl ?_
  refine wp_getI dX4_isOf_2 hth fb_4_0 m_1_109 ?_
  refine wp_icmp_eq (tgt := 38) dX4_isOf_5 (by decide) (fun c1 => ?_) (fun c1 => ?_)
  · replace h := h.1 c1
    refine wp_iconst (v := 1) dX4_isOf_38 (by decide) ?_
    refine wp_goto (tgt := 43) dX4_isOf_39 (by decide) ?_
    exact wp_iret (ty := .boolean) dX4_isOf_43 rfl rfl h
  · replace h := h.2 c1
    refine wp_iload_n dX4_isOf_8 rfl rfl ?_
    refine wp_if_eq (tgt := 38) dX4_isOf_9 (by decide) (fun c2 => ?_) (fun c2 => ?_)
    · replace h := h.1 c2
      refine wp_iconst (v := 1) dX4_isOf_38 (by decide) ?_
      refine wp_goto (tgt := 43) dX4_isOf_39 (by decide) ?_
      exact wp_iret (ty := .boolean) dX4_isOf_43 rfl rfl h
    · replace h := h.2 c2
      refine wp_iload_n dX4_isOf_12 rfl rfl ?_
      refine wp_iconst (v := 1) dX4_isOf_13 (by decide) ?_
      refine wp_icmp_ne (tgt := 25) dX4_isOf_14 (by decide) (fun c3 => ?_) (fun c3 => ?_)
      · replace h := h.2 c3
        refine wp_iload_n dX4_isOf_25 rfl rfl ?_
        refine wp_iconst (v := 2) dX4_isOf_26 (by decide) ?_
        refine wp_icmp_ne (tgt := 42) dX4_isOf_27 (by decide) (fun c4 => ?_) (fun c4 => ?_)
        · replace h := h.2 c4
          refine wp_iconst (v := 0) dX4_isOf_42 (by decide) ?_
          exact wp_iret (ty := .boolean) dX4_isOf_43 rfl rfl h
        · replace h := h.1 c4
          refine wp_aload_n dX4_isOf_30 rfl rfl ?_
          refine wp_getI dX4_isOf_31 hth fb_4_0 m_1_109 ?_
          refine wp_iconst (v := 5) dX4_isOf_34 (by decide) ?_
          refine wp_icmp_ne (tgt := 42) dX4_isOf_35 (by decide) (fun c5 => ?_) (fun c5 => ?_)
          · replace h := h.2 c5
            refine wp_iconst (v := 0) dX4_isOf_42 (by decide) ?_
            exact wp_iret (ty := .boolean) dX4_isOf_43 rfl rfl h
          · replace h := h.1 c5
            refine wp_iconst (v := 1) dX4_isOf_38 (by decide) ?_
            refine wp_goto (tgt := 43) dX4_isOf_39 (by decide) ?_
            exact wp_iret (ty := .boolean) dX4_isOf_43 rfl rfl h
      · replace h := h.1 c3
        refine wp_aload_n dX4_isOf_17 rfl rfl ?_
        refine wp_getI dX4_isOf_18 hth fb_4_0 m_1_109 ?_
        refine wp_iconst (v := 4) dX4_isOf_21 (by decide) ?_
        refine wp_icmp_eq (tgt := 38) dX4_isOf_22 (by decide) (fun c6 => ?_) (fun c6 => ?_)
        · replace h := h.1 c6
          refine wp_iconst (v := 1) dX4_isOf_38 (by decide) ?_
          refine wp_goto (tgt := 43) dX4_isOf_39 (by decide) ?_
          exact wp_iret (ty := .boolean) dX4_isOf_43 rfl rfl h
        · replace h := h.2 c6
          refine wp_iload_n dX4_isOf_25 rfl rfl ?_
          refine wp_iconst (v := 2) dX4_isOf_26 (by decide) ?_
          refine wp_icmp_ne (tgt := 42) dX4_isOf_27 (by decide) (fun c7 => ?_) (fun c7 => ?_)
          · replace h := h.2 c7
            refine wp_iconst (v := 0) dX4_isOf_42 (by decide) ?_
            exact wp_iret (ty := .boolean) dX4_isOf_43 rfl rfl h
          · replace h := h.1 c7
            refine wp_aload_n dX4_isOf_30 rfl rfl ?_
            refine wp_getI dX4_isOf_31 hth fb_4_0 m_1_109 ?_
            refine wp_iconst (v := 5) dX4_isOf_34 (by decide) ?_
            refine wp_icmp_ne (tgt := 42) dX4_isOf_35 (by decide) (fun c8 => ?_) (fun c8 => ?_)
            · replace h := h.2 c8
              refine wp_iconst (v := 0) dX4_isOf_42 (by decide) ?_
              exact wp_iret (ty := .boolean) dX4_isOf_43 rfl rfl h
            · replace h := h.1 c8
              refine wp_iconst (v := 1) dX4_isOf_38 (by decide) ?_
              refine wp_goto (tgt := 43) dX4_isOf_39 (by decide) ?_
              exact wp_iret (ty := .boolean) dX4_isOf_43 rfl rfl h
abbrev C_X4_bareWarmth (G : Glob) (th : Nat) (M : Mem) (Q : Option Value → Mem → Prop) : Prop := WpM G 1 Y_X4_bareWarmth [.ref (ad G th)] M Q
set_option maxRecDepth 20000 in
theorem v_X4_bareWarmth {G : Glob} {th : Nat} {M : Mem} {Q : Option Value → Mem → Prop} (hth : kd th = 4) (h : Q (some (.int (if 0 < ((M.1 th 3) - ((M.1 th 4) / 3)) then ((M.1 th 3) - ((M.1 th 4) / 3)) else 0))) M) : C_X4_bareWarmth G th M Q := by
  refine wp_enter (ls0 := [some (.ref (ad G th))]) (by decide +kernel) (Nat.le_of_ble_eq_true rfl) rfl ?_
  refine wp_iconst (v := 0) dX4_bareWarmth_0 (by decide) ?_
  refine wp_aload_n dX4_bareWarmth_1 rfl rfl ?_
  refine wp_getI dX4_bareWarmth_2 hth fb_4_3 m_1_121 ?_
  refine wp_aload_n dX4_bareWarmth_5 rfl rfl ?_
  refine wp_getI dX4_bareWarmth_6 hth fb_4_4 m_1_123 ?_
  refine wp_iconst (v := 3) dX4_bareWarmth_9 (by decide) ?_
  refine wp_idiv dX4_bareWarmth_10 (by decide) ?_
  refine wp_isub dX4_bareWarmth_11 ?_
  refine wp_max m_2_236 (by decide) mw_max (Nat.le_of_ble_eq_true rfl) dX4_bareWarmth_12 ?_
  exact wp_iret (ty := .int) dX4_bareWarmth_15 rfl rfl h
abbrev C_X4_warmth (G : Glob) (th : Nat) (M : Mem) (Q : Option Value → Mem → Prop) : Prop := WpM G 2 Y_X4_warmth [.ref (ad G th)] M Q
set_option maxRecDepth 20000 in
theorem v_X4_warmth {G : Glob} {th : Nat} {M : Mem} {Q : Option Value → Mem → Prop} (hth : kd th = 4) (h : (WpM G 1 Y_X4_bareWarmth [.ref (ad G th)] M (RI (fun r2 M1 => (((M1.1 th 0) = 1 → Q (some (.int (r2 + 2))) M1) ∧ (¬ (M1.1 th 0) = 1 → (((M1.1 th 0) = 2 → Q (some (.int (if 0 < (r2 - 1) then (r2 - 1) else 0))) M1) ∧ (¬ (M1.1 th 0) = 2 → (((M1.1 th 0) = 3 → Q (some (.int r2)) M1) ∧ (¬ (M1.1 th 0) = 3 → (((M1.1 th 0) = 4 → (((M1.1 th 4) < 6 → Q (some (.int (r2 + 3))) M1) ∧ (¬ (M1.1 th 4) < 6 → Q (some (.int r2)) M1))) ∧ (¬ (M1.1 th 0) = 4 → (((M1.1 th 0) = 5 → Q (some (.int (if 0 < (r2 - 1) then (r2 - 1) else 0))) M1) ∧ (¬ (M1.1 th 0) = 5 → Q (some (.int r2)) M1)))))))))))))) : C_X4_warmth G th M Q := by
  refine wp_enter (ls0 := [some (.ref (ad G th)), none]) (by decide +kernel) (Nat.le_of_ble_eq_true rfl) rfl ?_
  refine wp_aload_n dX4_warmth_0 rfl rfl ?_
  refine wp_callVI (a := th) (d1 := 1) (As := []) (st := []) dX4_warmth_1 hth cm_X4_bareWarmth m_2_232 (by decide) rfl (Nat.le_of_ble_eq_true rfl) rfl h ?_
  intro r2 M1 h
  refine wp_istore_n (ls' := [some (.ref (ad G th)), some (.int r2)]) dX4_warmth_4 rfl (by decide) rfl rfl ?_
  refine wp_aload_n dX4_warmth_5 rfl rfl ?_
  refine wp_getI dX4_warmth_6 hth fb_4_0 m_1_109 ?_
  rcases Decidable.em ((M1.1 th 0) = 1) with n0 | n0
  · replace h := h.1 n0
    refine wp_tswI (tgt := 44) (v := 1) dX4_warmth_9 n0 (by decide) (by decide) rfl (by decide) ?_
    refine wp_iload_n dX4_warmth_44 rfl rfl ?_
    refine wp_iconst (v := 2) dX4_warmth_45 (by decide) ?_
    refine wp_iadd dX4_warmth_46 ?_
    exact wp_iret (ty := .int) dX4_warmth_47 rfl rfl h
  · replace h := h.2 n0
    rcases Decidable.em ((M1.1 th 0) = 2) with n1 | n1
    · replace h := h.1 n1
      refine wp_tswI (tgt := 48) (v := 2) dX4_warmth_9 n1 (by decide) (by decide) rfl (by decide) ?_
      refine wp_iconst (v := 0) dX4_warmth_48 (by decide) ?_
      refine wp_iload_n dX4_warmth_49 rfl rfl ?_
      refine wp_iconst (v := 1) dX4_warmth_50 (by decide) ?_
      refine wp_isub dX4_warmth_51 ?_
      refine wp_max m_2_236 (by decide) mw_max (Nat.le_of_ble_eq_true rfl) dX4_warmth_52 ?_
      exact wp_iret (ty := .int) dX4_warmth_55 rfl rfl h
    · replace h := h.2 n1
      rcases Decidable.em ((M1.1 th 0) = 3) with n2 | n2
      · replace h := h.1 n2
        refine wp_tswI (tgt := 73) (v := 3) dX4_warmth_9 n2 (by decide) (by decide) rfl (by decide) ?_
        refine wp_iload_n dX4_warmth_73 rfl rfl ?_
        exact wp_iret (ty := .int) dX4_warmth_74 rfl rfl h
      · replace h := h.2 n2
        rcases Decidable.em ((M1.1 th 0) = 4) with n3 | n3
        · replace h := h.1 n3
          refine wp_tswI (tgt := 56) (v := 4) dX4_warmth_9 n3 (by decide) (by decide) rfl (by decide) ?_
          refine wp_aload_n dX4_warmth_56 rfl rfl ?_
          refine wp_getI dX4_warmth_57 hth fb_4_4 m_1_123 ?_
          refine wp_bipush (v := 6) dX4_warmth_60 (by decide) ?_
          refine wp_icmp_ge (tgt := 71) dX4_warmth_62 (by decide) (fun c3 => ?_) (fun c3 => ?_)
          · replace h := h.2 c3
            refine wp_iload_n dX4_warmth_71 rfl rfl ?_
            exact wp_iret (ty := .int) dX4_warmth_72 rfl rfl h
          · replace h := h.1 c3
            refine wp_iload_n dX4_warmth_65 rfl rfl ?_
            refine wp_iconst (v := 3) dX4_warmth_66 (by decide) ?_
            refine wp_iadd dX4_warmth_67 ?_
            refine wp_goto (tgt := 72) dX4_warmth_68 (by decide) ?_
            exact wp_iret (ty := .int) dX4_warmth_72 rfl rfl h
        · replace h := h.2 n3
          rcases Decidable.em ((M1.1 th 0) = 5) with n4 | n4
          · replace h := h.1 n4
            refine wp_tswI (tgt := 48) (v := 5) dX4_warmth_9 n4 (by decide) (by decide) rfl (by decide) ?_
            refine wp_iconst (v := 0) dX4_warmth_48 (by decide) ?_
            refine wp_iload_n dX4_warmth_49 rfl rfl ?_
            refine wp_iconst (v := 1) dX4_warmth_50 (by decide) ?_
            refine wp_isub dX4_warmth_51 ?_
            refine wp_max m_2_236 (by decide) mw_max (Nat.le_of_ble_eq_true rfl) dX4_warmth_52 ?_
            exact wp_iret (ty := .int) dX4_warmth_55 rfl rfl h
          · replace h := h.2 n4
            refine wp_tswD (tgt := 73) dX4_warmth_9 (by have e0 : ((M1.1 th 0) : Int32).toInt ≠ 1 := fun e => n0 (Int32.toInt_inj.mp e); have e1 : ((M1.1 th 0) : Int32).toInt ≠ 2 := fun e => n1 (Int32.toInt_inj.mp e); have e2 : ((M1.1 th 0) : Int32).toInt ≠ 3 := fun e => n2 (Int32.toInt_inj.mp e); have e3 : ((M1.1 th 0) : Int32).toInt ≠ 4 := fun e => n3 (Int32.toInt_inj.mp e); have e4 : ((M1.1 th 0) : Int32).toInt ≠ 5 := fun e => n4 (Int32.toInt_inj.mp e); omega) (by decide) ?_
            refine wp_iload_n dX4_warmth_73 rfl rfl ?_
            exact wp_iret (ty := .int) dX4_warmth_74 rfl rfl h
abbrev C_X4_goesOn (G : Glob) (th : Nat) (x1 : Int32) (M : Mem) (Q : Option Value → Mem → Prop) : Prop := WpM G 2 Y_X4_goesOn [.ref (ad G th), .int x1] M Q
set_option maxRecDepth 20000 in
theorem v_X4_goesOn {G : Glob} {th : Nat} {x1 : Int32} {M : Mem} {Q : Option Value → Mem → Prop} (hth : kd th = 4) (h : (((M.1 th 2) = x1 → Q (some (.int 1)) M) ∧ (¬ (M.1 th 2) = x1 → (WpM G 1 Y_X4_isOf [.ref (ad G th), .int 2] M (RI (fun r3 M2 => ((r3 = 0 → Q (some (.int 0)) M2) ∧ (¬ r3 = 0 → Q (some (.int 1)) M2)))))))) : C_X4_goesOn G th x1 M Q := by
  refine wp_enter (ls0 := [some (.ref (ad G th)), some (.int x1)]) (by decide +kernel) (Nat.le_of_ble_eq_true rfl) rfl ?_
  refine wp_aload_n dX4_goesOn_0 rfl rfl ?_
  refine wp_getI dX4_goesOn_1 hth fb_4_2 m_1_117 ?_
  refine wp_iload_n dX4_goesOn_4 rfl rfl ?_
  refine wp_icmp_eq (tgt := 16) dX4_goesOn_5 (by decide) (fun c1 => ?_) (fun c1 => ?_)
  · replace h := h.1 c1
    refine wp_iconst (v := 1) dX4_goesOn_16 (by decide) ?_
    refine wp_goto (tgt := 21) dX4_goesOn_17 (by decide) ?_
    exact wp_iret (ty := .boolean) dX4_goesOn_21 rfl rfl h
  · replace h := h.2 c1
    refine wp_aload_n dX4_goesOn_8 rfl rfl ?_
    refine wp_iconst (v := 2) dX4_goesOn_9 (by decide) ?_
    refine wp_callVI (a := th) (d1 := 1) (As := [.int 2]) (st := []) dX4_goesOn_10 hth cm_X4_isOf m_3_23 (by decide) rfl (Nat.le_of_ble_eq_true rfl) rfl h ?_
    intro r3 M2 h
    refine wp_if_eq (tgt := 20) dX4_goesOn_13 (by decide) (fun c4 => ?_) (fun c4 => ?_)
    · replace h := h.1 c4
      refine wp_iconst (v := 0) dX4_goesOn_20 (by decide) ?_
      exact wp_iret (ty := .boolean) dX4_goesOn_21 rfl rfl h
    · replace h := h.2 c4
      refine wp_iconst (v := 1) dX4_goesOn_16 (by decide) ?_
      refine wp_goto (tgt := 21) dX4_goesOn_17 (by decide) ?_
      exact wp_iret (ty := .boolean) dX4_goesOn_21 rfl rfl h
abbrev C_X4_makesPairWith (G : Glob) (th : Nat) (o1 : Nat) (M : Mem) (Q : Option Value → Mem → Prop) : Prop := WpM G 3 Y_X4_makesPairWith [.ref (ad G th), .ref (ad G o1)] M Q
set_option maxRecDepth 20000 in
theorem v_X4_makesPairWith {G : Glob} {th : Nat} {o1 : Nat} {M : Mem} {Q : Option Value → Mem → Prop} (hth : kd th = 4) (hk1 : kd o1 = 4) (h : (WpM G 2 Y_X4_goesOn [.ref (ad G th), .int 0] M (RI (fun r2 M1 => ((r2 = 0 → (WpM G 2 Y_X4_goesOn [.ref (ad G th), .int 1] M1 (RI (fun r5 M4 => ((r5 = 0 → Q (some (.int 0)) M4) ∧ (¬ r5 = 0 → (WpM G 2 Y_X4_goesOn [.ref (ad G o1), .int 0] M4 (RI (fun r8 M7 => ((r8 = 0 → Q (some (.int 0)) M7) ∧ (¬ r8 = 0 → Q (some (.int 1)) M7))))))))))) ∧ (¬ r2 = 0 → (WpM G 2 Y_X4_goesOn [.ref (ad G o1), .int 1] M1 (RI (fun r11 M10 => ((r11 = 0 → (WpM G 2 Y_X4_goesOn [.ref (ad G th), .int 1] M10 (RI (fun r14 M13 => ((r14 = 0 → Q (some (.int 0)) M13) ∧ (¬ r14 = 0 → (WpM G 2 Y_X4_goesOn [.ref (ad G o1), .int 0] M13 (RI (fun r17 M16 => ((r17 = 0 → Q (some (.int 0)) M16) ∧ (¬ r17 = 0 → Q (some (.int 1)) M16))))))))))) ∧ (¬ r11 = 0 → Q (some (.int 1)) M10))))))))))) : C_X4_makesPairWith G th o1 M Q := by
  refine wp_enter (ls0 := [some (.ref (ad G th)), some (.ref (ad G o1))]) (by decide +kernel) (Nat.le_of_ble_eq_true rfl) rfl ?_
  refine wp_aload_n dX4_makesPairWith_0 rfl rfl ?_
  refine wp_iconst (v := 0) dX4_makesPairWith_1 (by decide) ?_
  refine wp_callVI (a := th) (d1 := 2) (As := [.int 0]) (st := []) dX4_makesPairWith_2 hth cm_X4_goesOn m_3_19 (by decide) rfl (Nat.le_of_ble_eq_true rfl) rfl h ?_
  intro r2 M1 h
  refine wp_if_eq (tgt := 16) dX4_makesPairWith_5 (by decide) (fun c3 => ?_) (fun c3 => ?_)
  · replace h := h.1 c3
    refine wp_aload_n dX4_makesPairWith_16 rfl rfl ?_
    refine wp_iconst (v := 1) dX4_makesPairWith_17 (by decide) ?_
    refine wp_callVI (a := th) (d1 := 2) (As := [.int 1]) (st := []) dX4_makesPairWith_18 hth cm_X4_goesOn m_3_19 (by decide) rfl (Nat.le_of_ble_eq_true rfl) rfl h ?_
    intro r5 M4 h
    refine wp_if_eq (tgt := 36) dX4_makesPairWith_21 (by decide) (fun c6 => ?_) (fun c6 => ?_)
    · replace h := h.1 c6
      refine wp_iconst (v := 0) dX4_makesPairWith_36 (by decide) ?_
      exact wp_iret (ty := .boolean) dX4_makesPairWith_37 rfl rfl h
    · replace h := h.2 c6
      refine wp_aload_n dX4_makesPairWith_24 rfl rfl ?_
      refine wp_iconst (v := 0) dX4_makesPairWith_25 (by decide) ?_
      refine wp_callVI (a := o1) (d1 := 2) (As := [.int 0]) (st := []) dX4_makesPairWith_26 hk1 cm_X4_goesOn m_3_19 (by decide) rfl (Nat.le_of_ble_eq_true rfl) rfl h ?_
      intro r8 M7 h
      refine wp_if_eq (tgt := 36) dX4_makesPairWith_29 (by decide) (fun c9 => ?_) (fun c9 => ?_)
      · replace h := h.1 c9
        refine wp_iconst (v := 0) dX4_makesPairWith_36 (by decide) ?_
        exact wp_iret (ty := .boolean) dX4_makesPairWith_37 rfl rfl h
      · replace h := h.2 c9
        refine wp_iconst (v := 1) dX4_makesPairWith_32 (by decide) ?_
        refine wp_goto (tgt := 37) dX4_makesPairWith_33 (by decide) ?_
        exact wp_iret (ty := .boolean) dX4_makesPairWith_37 rfl rfl h
  · replace h := h.2 c3
    refine wp_aload_n dX4_makesPairWith_8 rfl rfl ?_
    refine wp_iconst (v := 1) dX4_makesPairWith_9 (by decide) ?_
    refine wp_callVI (a := o1) (d1 := 2) (As := [.int 1]) (st := []) dX4_makesPairWith_10 hk1 cm_X4_goesOn m_3_19 (by decide) rfl (Nat.le_of_ble_eq_true rfl) rfl h ?_
    intro r11 M10 h
    refine wp_if_ne (tgt := 32) dX4_makesPairWith_13 (by decide) (fun c12 => ?_) (fun c12 => ?_)
    · replace h := h.2 c12
      refine wp_iconst (v := 1) dX4_makesPairWith_32 (by decide) ?_
      refine wp_goto (tgt := 37) dX4_makesPairWith_33 (by decide) ?_
      exact wp_iret (ty := .boolean) dX4_makesPairWith_37 rfl rfl h
    · replace h := h.1 c12
      refine wp_aload_n dX4_makesPairWith_16 rfl rfl ?_
      refine wp_iconst (v := 1) dX4_makesPairWith_17 (by decide) ?_
      refine wp_callVI (a := th) (d1 := 2) (As := [.int 1]) (st := []) dX4_makesPairWith_18 hth cm_X4_goesOn m_3_19 (by decide) rfl (Nat.le_of_ble_eq_true rfl) rfl h ?_
      intro r14 M13 h
      refine wp_if_eq (tgt := 36) dX4_makesPairWith_21 (by decide) (fun c15 => ?_) (fun c15 => ?_)
      · replace h := h.1 c15
        refine wp_iconst (v := 0) dX4_makesPairWith_36 (by decide) ?_
        exact wp_iret (ty := .boolean) dX4_makesPairWith_37 rfl rfl h
      · replace h := h.2 c15
        refine wp_aload_n dX4_makesPairWith_24 rfl rfl ?_
        refine wp_iconst (v := 0) dX4_makesPairWith_25 (by decide) ?_
        refine wp_callVI (a := o1) (d1 := 2) (As := [.int 0]) (st := []) dX4_makesPairWith_26 hk1 cm_X4_goesOn m_3_19 (by decide) rfl (Nat.le_of_ble_eq_true rfl) rfl h ?_
        intro r17 M16 h
        refine wp_if_eq (tgt := 36) dX4_makesPairWith_29 (by decide) (fun c18 => ?_) (fun c18 => ?_)
        · replace h := h.1 c18
          refine wp_iconst (v := 0) dX4_makesPairWith_36 (by decide) ?_
          exact wp_iret (ty := .boolean) dX4_makesPairWith_37 rfl rfl h
        · replace h := h.2 c18
          refine wp_iconst (v := 1) dX4_makesPairWith_32 (by decide) ?_
          refine wp_goto (tgt := 37) dX4_makesPairWith_33 (by decide) ?_
          exact wp_iret (ty := .boolean) dX4_makesPairWith_37 rfl rfl h
abbrev C_X4_goodWith (G : Glob) (th : Nat) (o1 : Nat) (M : Mem) (Q : Option Value → Mem → Prop) : Prop := WpM G 4 Y_X4_goodWith [.ref (ad G th), .ref (ad G o1)] M Q
set_option maxRecDepth 20000 in
theorem v_X4_goodWith {G : Glob} {th : Nat} {o1 : Nat} {M : Mem} {Q : Option Value → Mem → Prop} (hth : kd th = 4) (hk1 : kd o1 = 4) (h : (WpM G 3 Y_X4_makesPairWith [.ref (ad G th), .ref (ad G o1)] M (RI (fun r2 M1 => ((r2 = 0 → Q (some (.int (-9))) M1) ∧ (¬ r2 = 0 → (WpM G 2 Y_X4_warmth [.ref (ad G th)] M1 (RI (fun r5 M4 => (WpM G 2 Y_X4_warmth [.ref (ad G o1)] M4 (RI (fun r7 M6 => (((M6.1 th 0) = 5 → Q (some (.int (r5 + r7))) M6) ∧ (¬ (M6.1 th 0) = 5 → (((M6.1 o1 0) = 5 → Q (some (.int (r5 + r7))) M6) ∧ (¬ (M6.1 o1 0) = 5 → Q (some (.int (if 0 < ((r5 + r7) - (2 * (if 0 ≤ ((M6.1 th 1) - (M6.1 o1 1)) then ((M6.1 th 1) - (M6.1 o1 1)) else 0 - ((M6.1 th 1) - (M6.1 o1 1))))) then ((r5 + r7) - (2 * (if 0 ≤ ((M6.1 th 1) - (M6.1 o1 1)) then ((M6.1 th 1) - (M6.1 o1 1)) else 0 - ((M6.1 th 1) - (M6.1 o1 1))))) else 0))) M6)))))))))))))))) : C_X4_goodWith G th o1 M Q := by
  refine wp_enter (ls0 := [some (.ref (ad G th)), some (.ref (ad G o1)), none]) (by decide +kernel) (Nat.le_of_ble_eq_true rfl) rfl ?_
  refine wp_aload_n dX4_goodWith_0 rfl rfl ?_
  refine wp_aload_n dX4_goodWith_1 rfl rfl ?_
  refine wp_callVI (a := th) (d1 := 3) (As := [.ref (ad G o1)]) (st := []) dX4_goodWith_2 hth cm_X4_makesPairWith m_3_42 (by decide) rfl (Nat.le_of_ble_eq_true rfl) rfl h ?_
  intro r2 M1 h
  refine wp_if_ne (tgt := 11) dX4_goodWith_5 (by decide) (fun c3 => ?_) (fun c3 => ?_)
  · replace h := h.2 c3
    refine wp_aload_n dX4_goodWith_11 rfl rfl ?_
    refine wp_callVI (a := th) (d1 := 2) (As := []) (st := []) dX4_goodWith_12 hth cm_X4_warmth m_2_228 (by decide) rfl (Nat.le_of_ble_eq_true rfl) rfl h ?_
    intro r5 M4 h
    refine wp_aload_n dX4_goodWith_15 rfl rfl ?_
    refine wp_callVI (a := o1) (d1 := 2) (As := []) (st := [.int r5]) dX4_goodWith_16 hk1 cm_X4_warmth m_2_228 (by decide) rfl (Nat.le_of_ble_eq_true rfl) rfl h ?_
    intro r7 M6 h
    refine wp_iadd dX4_goodWith_19 ?_
    refine wp_istore_n (ls' := [some (.ref (ad G th)), some (.ref (ad G o1)), some (.int (r5 + r7))]) dX4_goodWith_20 rfl (by decide) rfl rfl ?_
    refine wp_aload_n dX4_goodWith_21 rfl rfl ?_
    refine wp_getI dX4_goodWith_22 hth fb_4_0 m_1_109 ?_
    refine wp_iconst (v := 5) dX4_goodWith_25 (by decide) ?_
    refine wp_icmp_eq (tgt := 37) dX4_goodWith_26 (by decide) (fun c8 => ?_) (fun c8 => ?_)
    · replace h := h.1 c8
      refine wp_iload_n dX4_goodWith_37 rfl rfl ?_
      exact wp_iret (ty := .int) dX4_goodWith_38 rfl rfl h
    · replace h := h.2 c8
      refine wp_aload_n dX4_goodWith_29 rfl rfl ?_
      refine wp_getI dX4_goodWith_30 hk1 fb_4_0 m_1_109 ?_
      refine wp_iconst (v := 5) dX4_goodWith_33 (by decide) ?_
      refine wp_icmp_ne (tgt := 39) dX4_goodWith_34 (by decide) (fun c9 => ?_) (fun c9 => ?_)
      · replace h := h.2 c9
        refine wp_iconst (v := 0) dX4_goodWith_39 (by decide) ?_
        refine wp_iload_n dX4_goodWith_40 rfl rfl ?_
        refine wp_iconst (v := 2) dX4_goodWith_41 (by decide) ?_
        refine wp_aload_n dX4_goodWith_42 rfl rfl ?_
        refine wp_getI dX4_goodWith_43 hth fb_4_1 m_1_114 ?_
        refine wp_aload_n dX4_goodWith_46 rfl rfl ?_
        refine wp_getI dX4_goodWith_47 hk1 fb_4_1 m_1_114 ?_
        refine wp_isub dX4_goodWith_50 ?_
        refine wp_abs m_3_43 (by decide) mw_abs (Nat.le_of_ble_eq_true rfl) dX4_goodWith_51 ?_
        refine wp_imul dX4_goodWith_54 ?_
        refine wp_isub dX4_goodWith_55 ?_
        refine wp_max m_2_236 (by decide) mw_max (Nat.le_of_ble_eq_true rfl) dX4_goodWith_56 ?_
        exact wp_iret (ty := .int) dX4_goodWith_59 rfl rfl h
      · replace h := h.1 c9
        refine wp_iload_n dX4_goodWith_37 rfl rfl ?_
        exact wp_iret (ty := .int) dX4_goodWith_38 rfl rfl h
  · replace h := h.1 c3
    refine wp_bipush (v := (-9)) dX4_goodWith_8 (by decide) ?_
    exact wp_iret (ty := .int) dX4_goodWith_10 rfl rfl h
abbrev C_X4_tell (G : Glob) (th : Nat) (x1 : Int32) (M : Mem) (Q : Option Value → Mem → Prop) : Prop := WpM G 3 Y_X4_tell [.ref (ad G th), .int x1] M Q
set_option maxRecDepth 20000 in
theorem v_X4_tell {G : Glob} {th : Nat} {x1 : Int32} {M : Mem} {Q : Option Value → Mem → Prop} (hth : kd th = 4) (h : ((x1 = 0 → Q (some (.int (M.1 th 0))) M) ∧ (¬ x1 = 0 → ((x1 = 1 → Q (some (.int (M.1 th 1))) M) ∧ (¬ x1 = 1 → ((x1 = 2 → Q (some (.int (M.1 th 2))) M) ∧ (¬ x1 = 2 → ((x1 = 3 → Q (some (.int (M.1 th 3))) M) ∧ (¬ x1 = 3 → ((x1 = 4 → Q (some (.int (M.1 th 4))) M) ∧ (¬ x1 = 4 → ((x1 = 5 → (WpM G 2 Y_X4_warmth [.ref (ad G th)] M (RI (fun r2 M1 => Q (some (.int r2)) M1)))) ∧ (¬ x1 = 5 → Q (some (.int (M.1 th 5))) M))))))))))))) : C_X4_tell G th x1 M Q := by
  refine wp_enter (ls0 := [some (.ref (ad G th)), some (.int x1)]) (by decide +kernel) (Nat.le_of_ble_eq_true rfl) rfl ?_
  refine wp_iload_n dX4_tell_0 rfl rfl ?_
  rcases Decidable.em (x1 = 0) with n0 | n0
  · replace h := h.1 n0
    refine wp_tswI (tgt := 40) (v := 0) dX4_tell_1 n0 (by decide) (by decide) rfl (by decide) ?_
    refine wp_aload_n dX4_tell_40 rfl rfl ?_
    refine wp_getI dX4_tell_41 hth fb_4_0 m_1_109 ?_
    exact wp_iret (ty := .int) dX4_tell_44 rfl rfl h
  · replace h := h.2 n0
    rcases Decidable.em (x1 = 1) with n1 | n1
    · replace h := h.1 n1
      refine wp_tswI (tgt := 45) (v := 1) dX4_tell_1 n1 (by decide) (by decide) rfl (by decide) ?_
      refine wp_aload_n dX4_tell_45 rfl rfl ?_
      refine wp_getI dX4_tell_46 hth fb_4_1 m_1_114 ?_
      exact wp_iret (ty := .int) dX4_tell_49 rfl rfl h
    · replace h := h.2 n1
      rcases Decidable.em (x1 = 2) with n2 | n2
      · replace h := h.1 n2
        refine wp_tswI (tgt := 50) (v := 2) dX4_tell_1 n2 (by decide) (by decide) rfl (by decide) ?_
        refine wp_aload_n dX4_tell_50 rfl rfl ?_
        refine wp_getI dX4_tell_51 hth fb_4_2 m_1_117 ?_
        exact wp_iret (ty := .int) dX4_tell_54 rfl rfl h
      · replace h := h.2 n2
        rcases Decidable.em (x1 = 3) with n3 | n3
        · replace h := h.1 n3
          refine wp_tswI (tgt := 55) (v := 3) dX4_tell_1 n3 (by decide) (by decide) rfl (by decide) ?_
          refine wp_aload_n dX4_tell_55 rfl rfl ?_
          refine wp_getI dX4_tell_56 hth fb_4_3 m_1_121 ?_
          exact wp_iret (ty := .int) dX4_tell_59 rfl rfl h
        · replace h := h.2 n3
          rcases Decidable.em (x1 = 4) with n4 | n4
          · replace h := h.1 n4
            refine wp_tswI (tgt := 60) (v := 4) dX4_tell_1 n4 (by decide) (by decide) rfl (by decide) ?_
            refine wp_aload_n dX4_tell_60 rfl rfl ?_
            refine wp_getI dX4_tell_61 hth fb_4_4 m_1_123 ?_
            exact wp_iret (ty := .int) dX4_tell_64 rfl rfl h
          · replace h := h.2 n4
            rcases Decidable.em (x1 = 5) with n5 | n5
            · replace h := h.1 n5
              refine wp_tswI (tgt := 65) (v := 5) dX4_tell_1 n5 (by decide) (by decide) rfl (by decide) ?_
              refine wp_aload_n dX4_tell_65 rfl rfl ?_
              refine wp_callVI (a := th) (d1 := 2) (As := []) (st := []) dX4_tell_66 hth cm_X4_warmth m_2_228 (by decide) rfl (Nat.le_of_ble_eq_true rfl) rfl h ?_
              intro r2 M1 h
              exact wp_iret (ty := .int) dX4_tell_69 rfl rfl h
            · replace h := h.2 n5
              refine wp_tswD (tgt := 70) dX4_tell_1 (by have e0 : (x1 : Int32).toInt ≠ 0 := fun e => n0 (Int32.toInt_inj.mp e); have e1 : (x1 : Int32).toInt ≠ 1 := fun e => n1 (Int32.toInt_inj.mp e); have e2 : (x1 : Int32).toInt ≠ 2 := fun e => n2 (Int32.toInt_inj.mp e); have e3 : (x1 : Int32).toInt ≠ 3 := fun e => n3 (Int32.toInt_inj.mp e); have e4 : (x1 : Int32).toInt ≠ 4 := fun e => n4 (Int32.toInt_inj.mp e); have e5 : (x1 : Int32).toInt ≠ 5 := fun e => n5 (Int32.toInt_inj.mp e); omega) (by decide) ?_
              refine wp_aload_n dX4_tell_70 rfl rfl ?_
              refine wp_getI dX4_tell_71 hth fb_4_5 m_1_127 ?_
              exact wp_iret (ty := .int) dX4_tell_74 rfl rfl h
end
