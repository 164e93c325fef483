-- ===== PART A: goes FIRST, ahead of the names: the tables' words, and 'selects' of the private methods out of them =====
/-- a private method of a class that the tables say can be made, by its rows of tables_1 -/
def lw_okq (q : MethodName × Nat) : Prop := (q.1.cls ≠ "java/lang/invoke/MethodHandle" ∧ q.1.cls ≠ "java/lang/invoke/VarHandle") ∧ Cond.instantiable q.1.cls q.2 ∈ tables_1 ∧ Cond.privateMethod q.1 ∈ tables_1 ∧ Cond.instanceMethod q.1 ∈ tables_1
theorem lw_p0 : lw_okq (⟨"DrawerGloves", "finds", "(I)I"⟩, 13) := ⟨⟨by decide +kernel, by decide +kernel⟩, List.mem_of_getElem? (i := 17) (by decide +kernel), List.mem_of_getElem? (i := 320) (by decide +kernel), List.mem_of_getElem? (i := 321) (by decide +kernel)⟩
theorem lw_p1 : lw_okq (⟨"DrawerGloves", "refusedPlace", "(II)I"⟩, 13) := ⟨⟨by decide +kernel, by decide +kernel⟩, List.mem_of_getElem? (i := 17) (by decide +kernel), List.mem_of_getElem? (i := 333) (by decide +kernel), List.mem_of_getElem? (i := 334) (by decide +kernel)⟩
theorem lw_p2 : lw_okq (⟨"DrawerGloves", "refusedRow", "(I)I"⟩, 13) := ⟨⟨by decide +kernel, by decide +kernel⟩, List.mem_of_getElem? (i := 17) (by decide +kernel), List.mem_of_getElem? (i := 337) (by decide +kernel), List.mem_of_getElem? (i := 338) (by decide +kernel)⟩
theorem lw_p3 : lw_okq (⟨"DrawerGloves", "tells", "(I)I"⟩, 13) := ⟨⟨by decide +kernel, by decide +kernel⟩, List.mem_of_getElem? (i := 17) (by decide +kernel), List.mem_of_getElem? (i := 362) (by decide +kernel), List.mem_of_getElem? (i := 363) (by decide +kernel)⟩
theorem lw_p4 : lw_okq (⟨"DrawerGloves", "refusedText", "(I)I"⟩, 13) := ⟨⟨by decide +kernel, by decide +kernel⟩, List.mem_of_getElem? (i := 17) (by decide +kernel), List.mem_of_getElem? (i := 412) (by decide +kernel), List.mem_of_getElem? (i := 413) (by decide +kernel)⟩
theorem lw_p5 : lw_okq (⟨"DrawerGloves$Reading", "faultOfGlove", "(LDrawerGloves$Rows;II)I"⟩, 6) := ⟨⟨by decide +kernel, by decide +kernel⟩, List.mem_of_getElem? (i := 50) (by decide +kernel), List.mem_of_getElem? (i := 433) (by decide +kernel), List.mem_of_getElem? (i := 434) (by decide +kernel)⟩
theorem lw_p6 : lw_okq (⟨"DrawerGloves$Drawer", "carryOut", "(III)V"⟩, 4) := ⟨⟨by decide +kernel, by decide +kernel⟩, List.mem_of_getElem? (i := 81) (by decide +kernel), List.mem_of_getElem? (i := 452) (by decide +kernel), List.mem_of_getElem? (i := 453) (by decide +kernel)⟩
theorem lw_p7 : lw_okq (⟨"DrawerGloves$Glove", "goesOn", "(I)Z"⟩, 6) := ⟨⟨by decide +kernel, by decide +kernel⟩, List.mem_of_getElem? (i := 104) (by decide +kernel), List.mem_of_getElem? (i := 500) (by decide +kernel), List.mem_of_getElem? (i := 501) (by decide +kernel)⟩
theorem lw_p8 : lw_okq (⟨"DrawerGloves$Makings", "weighWith", "(II)V"⟩, 4) := ⟨⟨by decide +kernel, by decide +kernel⟩, List.mem_of_getElem? (i := 173) (by decide +kernel), List.mem_of_getElem? (i := 614) (by decide +kernel), List.mem_of_getElem? (i := 615) (by decide +kernel)⟩
theorem lw_p9 : lw_okq (⟨"DrawerGloves$Makings", "firstMate", "(LDrawerGloves$Drawer;II)I"⟩, 4) := ⟨⟨by decide +kernel, by decide +kernel⟩, List.mem_of_getElem? (i := 173) (by decide +kernel), List.mem_of_getElem? (i := 630) (by decide +kernel), List.mem_of_getElem? (i := 631) (by decide +kernel)⟩
theorem lw_p10 : lw_okq (⟨"DrawerGloves", "greatestChange", "(I)I"⟩, 13) := ⟨⟨by decide +kernel, by decide +kernel⟩, List.mem_of_getElem? (i := 17) (by decide +kernel), List.mem_of_getElem? (i := 639) (by decide +kernel), List.mem_of_getElem? (i := 640) (by decide +kernel)⟩
theorem lw_p11 : lw_okq (⟨"DrawerGloves$Calendar", "gather", "(LDrawerGloves$Drawer;)V"⟩, 7) := ⟨⟨by decide +kernel, by decide +kernel⟩, List.mem_of_getElem? (i := 196) (by decide +kernel), List.mem_of_getElem? (i := 656) (by decide +kernel), List.mem_of_getElem? (i := 657) (by decide +kernel)⟩
theorem lw_p12 : lw_okq (⟨"DrawerGloves$Makings", "isSafer", "(LDrawerGloves$Drawer;II)Z"⟩, 4) := ⟨⟨by decide +kernel, by decide +kernel⟩, List.mem_of_getElem? (i := 173) (by decide +kernel), List.mem_of_getElem? (i := 678) (by decide +kernel), List.mem_of_getElem? (i := 679) (by decide +kernel)⟩
theorem lw_p13 : lw_okq (⟨"DrawerGloves", "refusedGuess", "(II)I"⟩, 13) := ⟨⟨by decide +kernel, by decide +kernel⟩, List.mem_of_getElem? (i := 17) (by decide +kernel), List.mem_of_getElem? (i := 698) (by decide +kernel), List.mem_of_getElem? (i := 699) (by decide +kernel)⟩
theorem lw_p14 : lw_okq (⟨"DrawerGloves$Guess", "agrees", "(LDrawerGloves$Drawer;LDrawerGloves$Rows;I)Z"⟩, 2) := ⟨⟨by decide +kernel, by decide +kernel⟩, List.mem_of_getElem? (i := 226) (by decide +kernel), List.mem_of_getElem? (i := 713) (by decide +kernel), List.mem_of_getElem? (i := 714) (by decide +kernel)⟩
theorem lw_p15 : lw_okq (⟨"DrawerGloves$Guess", "howManyLike", "(II)I"⟩, 2) := ⟨⟨by decide +kernel, by decide +kernel⟩, List.mem_of_getElem? (i := 226) (by decide +kernel), List.mem_of_getElem? (i := 745) (by decide +kernel), List.mem_of_getElem? (i := 746) (by decide +kernel)⟩
def lw_privs_1 : List (MethodName × Nat) := [(⟨"DrawerGloves", "finds", "(I)I"⟩, 13), (⟨"DrawerGloves", "refusedPlace", "(II)I"⟩, 13), (⟨"DrawerGloves", "refusedRow", "(I)I"⟩, 13), (⟨"DrawerGloves", "tells", "(I)I"⟩, 13), (⟨"DrawerGloves", "refusedText", "(I)I"⟩, 13), (⟨"DrawerGloves$Reading", "faultOfGlove", "(LDrawerGloves$Rows;II)I"⟩, 6), (⟨"DrawerGloves$Drawer", "carryOut", "(III)V"⟩, 4), (⟨"DrawerGloves$Glove", "goesOn", "(I)Z"⟩, 6), (⟨"DrawerGloves$Makings", "weighWith", "(II)V"⟩, 4), (⟨"DrawerGloves$Makings", "firstMate", "(LDrawerGloves$Drawer;II)I"⟩, 4), (⟨"DrawerGloves", "greatestChange", "(I)I"⟩, 13), (⟨"DrawerGloves$Calendar", "gather", "(LDrawerGloves$Drawer;)V"⟩, 7), (⟨"DrawerGloves$Makings", "isSafer", "(LDrawerGloves$Drawer;II)Z"⟩, 4), (⟨"DrawerGloves", "refusedGuess", "(II)I"⟩, 13), (⟨"DrawerGloves$Guess", "agrees", "(LDrawerGloves$Drawer;LDrawerGloves$Rows;I)Z"⟩, 2), (⟨"DrawerGloves$Guess", "howManyLike", "(II)I"⟩, 2)]
theorem lw_r1 : ∀ q ∈ lw_privs_1, lw_okq q := List.forall_mem_cons.mpr ⟨lw_p0, List.forall_mem_cons.mpr ⟨lw_p1, List.forall_mem_cons.mpr ⟨lw_p2, List.forall_mem_cons.mpr ⟨lw_p3, List.forall_mem_cons.mpr ⟨lw_p4, List.forall_mem_cons.mpr ⟨lw_p5, List.forall_mem_cons.mpr ⟨lw_p6, List.forall_mem_cons.mpr ⟨lw_p7, List.forall_mem_cons.mpr ⟨lw_p8, List.forall_mem_cons.mpr ⟨lw_p9, List.forall_mem_cons.mpr ⟨lw_p10, List.forall_mem_cons.mpr ⟨lw_p11, List.forall_mem_cons.mpr ⟨lw_p12, List.forall_mem_cons.mpr ⟨lw_p13, List.forall_mem_cons.mpr ⟨lw_p14, List.forall_mem_cons.mpr ⟨lw_p15, fun _ h => absurd h List.not_mem_nil⟩⟩⟩⟩⟩⟩⟩⟩⟩⟩⟩⟩⟩⟩⟩⟩
theorem lw_p16 : lw_okq (⟨"DrawerGloves$Chances", "waysTo", "(LDrawerGloves$Drawer;II)J"⟩, 3) := ⟨⟨by decide +kernel, by decide +kernel⟩, List.mem_of_getElem? (i := 254) (by decide +kernel), List.mem_of_getElem? (i := 787) (by decide +kernel), List.mem_of_getElem? (i := 788) (by decide +kernel)⟩
theorem lw_p17 : lw_okq (⟨"DrawerGloves$Drawer", "wearFirstPair", "()V"⟩, 4) := ⟨⟨by decide +kernel, by decide +kernel⟩, List.mem_of_getElem? (i := 81) (by decide +kernel), List.mem_of_getElem? (i := 812) (by decide +kernel), List.mem_of_getElem? (i := 813) (by decide +kernel)⟩
theorem lw_p18 : lw_okq (⟨"DrawerGloves", "howManyKept", "()I"⟩, 13) := ⟨⟨by decide +kernel, by decide +kernel⟩, List.mem_of_getElem? (i := 17) (by decide +kernel), List.mem_of_getElem? (i := 846) (by decide +kernel), List.mem_of_getElem? (i := 847) (by decide +kernel)⟩
theorem lw_p19 : lw_okq (⟨"DrawerGlovesModel", "refuse", "(I)I"⟩, 36) := ⟨⟨by decide +kernel, by decide +kernel⟩, List.mem_of_getElem? (i := 870) (by decide +kernel), List.mem_of_getElem? (i := 996) (by decide +kernel), List.mem_of_getElem? (i := 997) (by decide +kernel)⟩
theorem lw_p20 : lw_okq (⟨"DrawerGlovesModel", "clearRow", "(II)V"⟩, 36) := ⟨⟨by decide +kernel, by decide +kernel⟩, List.mem_of_getElem? (i := 870) (by decide +kernel), List.mem_of_getElem? (i := 1000) (by decide +kernel), List.mem_of_getElem? (i := 1001) (by decide +kernel)⟩
theorem lw_p21 : lw_okq (⟨"DrawerGlovesModel", "tellsAsked", "(I)I"⟩, 36) := ⟨⟨by decide +kernel, by decide +kernel⟩, List.mem_of_getElem? (i := 870) (by decide +kernel), List.mem_of_getElem? (i := 1008) (by decide +kernel), List.mem_of_getElem? (i := 1009) (by decide +kernel)⟩
theorem lw_p22 : lw_okq (⟨"DrawerGlovesModel", "read", "(I)V"⟩, 36) := ⟨⟨by decide +kernel, by decide +kernel⟩, List.mem_of_getElem? (i := 870) (by decide +kernel), List.mem_of_getElem? (i := 1043) (by decide +kernel), List.mem_of_getElem? (i := 1044) (by decide +kernel)⟩
theorem lw_p23 : lw_okq (⟨"DrawerGlovesModel", "skip", "()V"⟩, 36) := ⟨⟨by decide +kernel, by decide +kernel⟩, List.mem_of_getElem? (i := 870) (by decide +kernel), List.mem_of_getElem? (i := 1047) (by decide +kernel), List.mem_of_getElem? (i := 1048) (by decide +kernel)⟩
theorem lw_p24 : lw_okq (⟨"DrawerGlovesModel", "here", "()I"⟩, 36) := ⟨⟨by decide +kernel, by decide +kernel⟩, List.mem_of_getElem? (i := 870) (by decide +kernel), List.mem_of_getElem? (i := 1051) (by decide +kernel), List.mem_of_getElem? (i := 1052) (by decide +kernel)⟩
theorem lw_p25 : lw_okq (⟨"DrawerGlovesModel", "figure", "(II)I"⟩, 36) := ⟨⟨by decide +kernel, by decide +kernel⟩, List.mem_of_getElem? (i := 870) (by decide +kernel), List.mem_of_getElem? (i := 1055) (by decide +kernel), List.mem_of_getElem? (i := 1056) (by decide +kernel)⟩
theorem lw_p26 : lw_okq (⟨"DrawerGlovesModel", "readGlove", "()V"⟩, 36) := ⟨⟨by decide +kernel, by decide +kernel⟩, List.mem_of_getElem? (i := 870) (by decide +kernel), List.mem_of_getElem? (i := 1059) (by decide +kernel), List.mem_of_getElem? (i := 1060) (by decide +kernel)⟩
theorem lw_p27 : lw_okq (⟨"DrawerGlovesModel", "goThrough", "()V"⟩, 36) := ⟨⟨by decide +kernel, by decide +kernel⟩, List.mem_of_getElem? (i := 870) (by decide +kernel), List.mem_of_getElem? (i := 1070) (by decide +kernel), List.mem_of_getElem? (i := 1071) (by decide +kernel)⟩
theorem lw_p28 : lw_okq (⟨"DrawerGlovesModel", "happen", "(III)V"⟩, 36) := ⟨⟨by decide +kernel, by decide +kernel⟩, List.mem_of_getElem? (i := 870) (by decide +kernel), List.mem_of_getElem? (i := 1074) (by decide +kernel), List.mem_of_getElem? (i := 1075) (by decide +kernel)⟩
theorem lw_p29 : lw_okq (⟨"DrawerGlovesModel", "isGlove", "(I)Z"⟩, 36) := ⟨⟨by decide +kernel, by decide +kernel⟩, List.mem_of_getElem? (i := 870) (by decide +kernel), List.mem_of_getElem? (i := 1082) (by decide +kernel), List.mem_of_getElem? (i := 1083) (by decide +kernel)⟩
theorem lw_p30 : lw_okq (⟨"DrawerGlovesModel", "ofGlove", "(II)I"⟩, 36) := ⟨⟨by decide +kernel, by decide +kernel⟩, List.mem_of_getElem? (i := 870) (by decide +kernel), List.mem_of_getElem? (i := 1086) (by decide +kernel), List.mem_of_getElem? (i := 1087) (by decide +kernel)⟩
theorem lw_p31 : lw_okq (⟨"DrawerGlovesModel", "warmthAs", "(II)I"⟩, 36) := ⟨⟨by decide +kernel, by decide +kernel⟩, List.mem_of_getElem? (i := 870) (by decide +kernel), List.mem_of_getElem? (i := 1090) (by decide +kernel), List.mem_of_getElem? (i := 1091) (by decide +kernel)⟩
def lw_privs_2 : List (MethodName × Nat) := [(⟨"DrawerGloves$Chances", "waysTo", "(LDrawerGloves$Drawer;II)J"⟩, 3), (⟨"DrawerGloves$Drawer", "wearFirstPair", "()V"⟩, 4), (⟨"DrawerGloves", "howManyKept", "()I"⟩, 13), (⟨"DrawerGlovesModel", "refuse", "(I)I"⟩, 36), (⟨"DrawerGlovesModel", "clearRow", "(II)V"⟩, 36), (⟨"DrawerGlovesModel", "tellsAsked", "(I)I"⟩, 36), (⟨"DrawerGlovesModel", "read", "(I)V"⟩, 36), (⟨"DrawerGlovesModel", "skip", "()V"⟩, 36), (⟨"DrawerGlovesModel", "here", "()I"⟩, 36), (⟨"DrawerGlovesModel", "figure", "(II)I"⟩, 36), (⟨"DrawerGlovesModel", "readGlove", "()V"⟩, 36), (⟨"DrawerGlovesModel", "goThrough", "()V"⟩, 36), (⟨"DrawerGlovesModel", "happen", "(III)V"⟩, 36), (⟨"DrawerGlovesModel", "isGlove", "(I)Z"⟩, 36), (⟨"DrawerGlovesModel", "ofGlove", "(II)I"⟩, 36), (⟨"DrawerGlovesModel", "warmthAs", "(II)I"⟩, 36)]
theorem lw_r2 : ∀ q ∈ lw_privs_2, lw_okq q := List.forall_mem_cons.mpr ⟨lw_p16, List.forall_mem_cons.mpr ⟨lw_p17, List.forall_mem_cons.mpr ⟨lw_p18, List.forall_mem_cons.mpr ⟨lw_p19, List.forall_mem_cons.mpr ⟨lw_p20, List.forall_mem_cons.mpr ⟨lw_p21, List.forall_mem_cons.mpr ⟨lw_p22, List.forall_mem_cons.mpr ⟨lw_p23, List.forall_mem_cons.mpr ⟨lw_p24, List.forall_mem_cons.mpr ⟨lw_p25, List.forall_mem_cons.mpr ⟨lw_p26, List.forall_mem_cons.mpr ⟨lw_p27, List.forall_mem_cons.mpr ⟨lw_p28, List.forall_mem_cons.mpr ⟨lw_p29, List.forall_mem_cons.mpr ⟨lw_p30, List.forall_mem_cons.mpr ⟨lw_p31, fun _ h => absurd h List.not_mem_nil⟩⟩⟩⟩⟩⟩⟩⟩⟩⟩⟩⟩⟩⟩⟩⟩
theorem lw_p32 : lw_okq (⟨"DrawerGlovesModel", "pairOf", "(II)I"⟩, 36) := ⟨⟨by decide +kernel, by decide +kernel⟩, List.mem_of_getElem? (i := 870) (by decide +kernel), List.mem_of_getElem? (i := 1101) (by decide +kernel), List.mem_of_getElem? (i := 1102) (by decide +kernel)⟩
theorem lw_p33 : lw_okq (⟨"DrawerGlovesModel", "pairAs", "(IIIII)I"⟩, 36) := ⟨⟨by decide +kernel, by decide +kernel⟩, List.mem_of_getElem? (i := 870) (by decide +kernel), List.mem_of_getElem? (i := 1105) (by decide +kernel), List.mem_of_getElem? (i := 1106) (by decide +kernel)⟩
theorem lw_p34 : lw_okq (⟨"DrawerGlovesModel", "areTwo", "(II)Z"⟩, 36) := ⟨⟨by decide +kernel, by decide +kernel⟩, List.mem_of_getElem? (i := 870) (by decide +kernel), List.mem_of_getElem? (i := 1116) (by decide +kernel), List.mem_of_getElem? (i := 1117) (by decide +kernel)⟩
theorem lw_p35 : lw_okq (⟨"DrawerGlovesModel", "does", "(III)V"⟩, 36) := ⟨⟨by decide +kernel, by decide +kernel⟩, List.mem_of_getElem? (i := 870) (by decide +kernel), List.mem_of_getElem? (i := 1124) (by decide +kernel), List.mem_of_getElem? (i := 1125) (by decide +kernel)⟩
theorem lw_p36 : lw_okq (⟨"DrawerGlovesModel", "inDrawer", "()I"⟩, 36) := ⟨⟨by decide +kernel, by decide +kernel⟩, List.mem_of_getElem? (i := 870) (by decide +kernel), List.mem_of_getElem? (i := 1132) (by decide +kernel), List.mem_of_getElem? (i := 1133) (by decide +kernel)⟩
theorem lw_p37 : lw_okq (⟨"DrawerGlovesModel", "setIn", "(I)I"⟩, 36) := ⟨⟨by decide +kernel, by decide +kernel⟩, List.mem_of_getElem? (i := 870) (by decide +kernel), List.mem_of_getElem? (i := 1136) (by decide +kernel), List.mem_of_getElem? (i := 1137) (by decide +kernel)⟩
theorem lw_p38 : lw_okq (⟨"DrawerGlovesModel", "all", "()I"⟩, 36) := ⟨⟨by decide +kernel, by decide +kernel⟩, List.mem_of_getElem? (i := 870) (by decide +kernel), List.mem_of_getElem? (i := 1167) (by decide +kernel), List.mem_of_getElem? (i := 1168) (by decide +kernel)⟩
theorem lw_p39 : lw_okq (⟨"DrawerGlovesModel", "measure", "()V"⟩, 36) := ⟨⟨by decide +kernel, by decide +kernel⟩, List.mem_of_getElem? (i := 870) (by decide +kernel), List.mem_of_getElem? (i := 1171) (by decide +kernel), List.mem_of_getElem? (i := 1172) (by decide +kernel)⟩
theorem lw_p40 : lw_okq (⟨"DrawerGlovesModel", "listTwos", "()V"⟩, 36) := ⟨⟨by decide +kernel, by decide +kernel⟩, List.mem_of_getElem? (i := 870) (by decide +kernel), List.mem_of_getElem? (i := 1194) (by decide +kernel), List.mem_of_getElem? (i := 1195) (by decide +kernel)⟩
theorem lw_p41 : lw_okq (⟨"DrawerGlovesModel", "useOf", "(I)I"⟩, 36) := ⟨⟨by decide +kernel, by decide +kernel⟩, List.mem_of_getElem? (i := 870) (by decide +kernel), List.mem_of_getElem? (i := 1198) (by decide +kernel), List.mem_of_getElem? (i := 1199) (by decide +kernel)⟩
theorem lw_p42 : lw_okq (⟨"DrawerGlovesModel", "takeOff", "(I)V"⟩, 36) := ⟨⟨by decide +kernel, by decide +kernel⟩, List.mem_of_getElem? (i := 870) (by decide +kernel), List.mem_of_getElem? (i := 1202) (by decide +kernel), List.mem_of_getElem? (i := 1203) (by decide +kernel)⟩
theorem lw_p43 : lw_okq (⟨"DrawerGlovesModel", "worstOf", "(I)I"⟩, 36) := ⟨⟨by decide +kernel, by decide +kernel⟩, List.mem_of_getElem? (i := 870) (by decide +kernel), List.mem_of_getElem? (i := 1210) (by decide +kernel), List.mem_of_getElem? (i := 1211) (by decide +kernel)⟩
theorem lw_p44 : lw_okq (⟨"DrawerGlovesModel", "judge", "(II)I"⟩, 36) := ⟨⟨by decide +kernel, by decide +kernel⟩, List.mem_of_getElem? (i := 870) (by decide +kernel), List.mem_of_getElem? (i := 1222) (by decide +kernel), List.mem_of_getElem? (i := 1223) (by decide +kernel)⟩
theorem lw_p45 : lw_okq (⟨"DrawerGlovesModel", "isSo", "(IIIII)Z"⟩, 36) := ⟨⟨by decide +kernel, by decide +kernel⟩, List.mem_of_getElem? (i := 870) (by decide +kernel), List.mem_of_getElem? (i := 1226) (by decide +kernel), List.mem_of_getElem? (i := 1227) (by decide +kernel)⟩
theorem lw_p46 : lw_okq (⟨"DrawerGlovesModel", "kindsBy", "(II)I"⟩, 36) := ⟨⟨by decide +kernel, by decide +kernel⟩, List.mem_of_getElem? (i := 870) (by decide +kernel), List.mem_of_getElem? (i := 1238) (by decide +kernel), List.mem_of_getElem? (i := 1239) (by decide +kernel)⟩
theorem lw_p47 : lw_okq (⟨"DrawerGlovesModel", "partBy", "(III)I"⟩, 36) := ⟨⟨by decide +kernel, by decide +kernel⟩, List.mem_of_getElem? (i := 870) (by decide +kernel), List.mem_of_getElem? (i := 1246) (by decide +kernel), List.mem_of_getElem? (i := 1247) (by decide +kernel)⟩
def lw_privs_3 : List (MethodName × Nat) := [(⟨"DrawerGlovesModel", "pairOf", "(II)I"⟩, 36), (⟨"DrawerGlovesModel", "pairAs", "(IIIII)I"⟩, 36), (⟨"DrawerGlovesModel", "areTwo", "(II)Z"⟩, 36), (⟨"DrawerGlovesModel", "does", "(III)V"⟩, 36), (⟨"DrawerGlovesModel", "inDrawer", "()I"⟩, 36), (⟨"DrawerGlovesModel", "setIn", "(I)I"⟩, 36), (⟨"DrawerGlovesModel", "all", "()I"⟩, 36), (⟨"DrawerGlovesModel", "measure", "()V"⟩, 36), (⟨"DrawerGlovesModel", "listTwos", "()V"⟩, 36), (⟨"DrawerGlovesModel", "useOf", "(I)I"⟩, 36), (⟨"DrawerGlovesModel", "takeOff", "(I)V"⟩, 36), (⟨"DrawerGlovesModel", "worstOf", "(I)I"⟩, 36), (⟨"DrawerGlovesModel", "judge", "(II)I"⟩, 36), (⟨"DrawerGlovesModel", "isSo", "(IIIII)Z"⟩, 36), (⟨"DrawerGlovesModel", "kindsBy", "(II)I"⟩, 36), (⟨"DrawerGlovesModel", "partBy", "(III)I"⟩, 36)]
theorem lw_r3 : ∀ q ∈ lw_privs_3, lw_okq q := List.forall_mem_cons.mpr ⟨lw_p32, List.forall_mem_cons.mpr ⟨lw_p33, List.forall_mem_cons.mpr ⟨lw_p34, List.forall_mem_cons.mpr ⟨lw_p35, List.forall_mem_cons.mpr ⟨lw_p36, List.forall_mem_cons.mpr ⟨lw_p37, List.forall_mem_cons.mpr ⟨lw_p38, List.forall_mem_cons.mpr ⟨lw_p39, List.forall_mem_cons.mpr ⟨lw_p40, List.forall_mem_cons.mpr ⟨lw_p41, List.forall_mem_cons.mpr ⟨lw_p42, List.forall_mem_cons.mpr ⟨lw_p43, List.forall_mem_cons.mpr ⟨lw_p44, List.forall_mem_cons.mpr ⟨lw_p45, List.forall_mem_cons.mpr ⟨lw_p46, List.forall_mem_cons.mpr ⟨lw_p47, fun _ h => absurd h List.not_mem_nil⟩⟩⟩⟩⟩⟩⟩⟩⟩⟩⟩⟩⟩⟩⟩⟩
theorem lw_p48 : lw_okq (⟨"DrawerGlovesModel", "hasOf", "(II)I"⟩, 36) := ⟨⟨by decide +kernel, by decide +kernel⟩, List.mem_of_getElem? (i := 870) (by decide +kernel), List.mem_of_getElem? (i := 1257) (by decide +kernel), List.mem_of_getElem? (i := 1258) (by decide +kernel)⟩
theorem lw_p49 : lw_okq (⟨"DrawerGlovesModel", "bestTurn", "(III)I"⟩, 36) := ⟨⟨by decide +kernel, by decide +kernel⟩, List.mem_of_getElem? (i := 870) (by decide +kernel), List.mem_of_getElem? (i := 1261) (by decide +kernel), List.mem_of_getElem? (i := 1262) (by decide +kernel)⟩
theorem lw_p50 : lw_okq (⟨"DrawerGlovesModel", "waysOf", "(IIII)J"⟩, 36) := ⟨⟨by decide +kernel, by decide +kernel⟩, List.mem_of_getElem? (i := 870) (by decide +kernel), List.mem_of_getElem? (i := 1272) (by decide +kernel), List.mem_of_getElem? (i := 1273) (by decide +kernel)⟩
theorem lw_p51 : lw_okq (⟨"DrawerGlovesModel", "lossOf", "(III)I"⟩, 36) := ⟨⟨by decide +kernel, by decide +kernel⟩, List.mem_of_getElem? (i := 870) (by decide +kernel), List.mem_of_getElem? (i := 1276) (by decide +kernel), List.mem_of_getElem? (i := 1277) (by decide +kernel)⟩
theorem lw_p52 : lw_okq (⟨"DrawerGlovesModel", "allWays", "(I)J"⟩, 36) := ⟨⟨by decide +kernel, by decide +kernel⟩, List.mem_of_getElem? (i := 870) (by decide +kernel), List.mem_of_getElem? (i := 1280) (by decide +kernel), List.mem_of_getElem? (i := 1281) (by decide +kernel)⟩
theorem lw_p53 : lw_okq (⟨"DrawerGlovesModel", "tellPart", "(JJ)V"⟩, 36) := ⟨⟨by decide +kernel, by decide +kernel⟩, List.mem_of_getElem? (i := 870) (by decide +kernel), List.mem_of_getElem? (i := 1285) (by decide +kernel), List.mem_of_getElem? (i := 1286) (by decide +kernel)⟩
def lw_privs_4 : List (MethodName × Nat) := [(⟨"DrawerGlovesModel", "hasOf", "(II)I"⟩, 36), (⟨"DrawerGlovesModel", "bestTurn", "(III)I"⟩, 36), (⟨"DrawerGlovesModel", "waysOf", "(IIII)J"⟩, 36), (⟨"DrawerGlovesModel", "lossOf", "(III)I"⟩, 36), (⟨"DrawerGlovesModel", "allWays", "(I)J"⟩, 36), (⟨"DrawerGlovesModel", "tellPart", "(JJ)V"⟩, 36)]
theorem lw_r4 : ∀ q ∈ lw_privs_4, lw_okq q := List.forall_mem_cons.mpr ⟨lw_p48, List.forall_mem_cons.mpr ⟨lw_p49, List.forall_mem_cons.mpr ⟨lw_p50, List.forall_mem_cons.mpr ⟨lw_p51, List.forall_mem_cons.mpr ⟨lw_p52, List.forall_mem_cons.mpr ⟨lw_p53, fun _ h => absurd h List.not_mem_nil⟩⟩⟩⟩⟩⟩
def lw_privs : List (MethodName × Nat) := lw_privs_1 ++ (lw_privs_2 ++ (lw_privs_3 ++ (lw_privs_4)))
def lw_tbl : List Cond := k2_sels lw_privs ++ tables_1
theorem lw_privs_ok : ∀ q ∈ lw_privs, lw_okq q := by
  show ∀ q ∈ lw_privs_1 ++ (lw_privs_2 ++ (lw_privs_3 ++ (lw_privs_4))), lw_okq q
  exact List.forall_mem_append.mpr ⟨lw_r1, List.forall_mem_append.mpr ⟨lw_r2, List.forall_mem_append.mpr ⟨lw_r3, lw_r4⟩⟩⟩
-- ===== end of PART A; then your names; then what follows =====
def RX0 : String := "DrawerGloves$Calendar"
def TX0 : u_T := fun k => match k with
  | 0 => ("DrawerGloves$Calendar", "worn", "LDrawerGloves$Drawer;", true)
  | 1 => ("DrawerGloves$Calendar", "codes", "[I", true)
  | 2 => ("DrawerGloves$Calendar", "way", "[I", true)
  | 3 => ("DrawerGloves$Calendar", "bestWay", "[I", true)
  | 4 => ("DrawerGloves$Calendar", "size", "I", false)
  | 5 => ("DrawerGloves$Calendar", "dearest", "I", false)
  | _ => ("DrawerGloves$Calendar", "best", "I", false)
def tyX0 : Nat → FieldType := fun k => match k with
  | 0 => .object "DrawerGloves$Drawer"
  | 1 => .array .int
  | 2 => .array .int
  | 3 => .array .int
  | 4 => .int
  | 5 => .int
  | _ => .int
theorem nmX0 : ∀ a, a < 7 → ∀ b, b < 7 → a ≠ b → (TX0 a).2.1 ≠ (TX0 b).2.1 := by decide +kernel
theorem tyX0_ok : ∀ k, k < 7 → parseFieldDescriptor (TX0 k).2.2.1 = some (tyX0 k) := by decide +kernel
abbrev cX0_init : ByteArray := prog_2_method_1_code
def yX0_init : MethodName := ⟨RX0, "<init>", "()V"⟩
abbrev cX0_plan : ByteArray := prog_2_method_2_code
def yX0_plan : MethodName := ⟨RX0, "plan", "(LDrawerGloves$Drawer;ILDrawerGloves$Rows;I)I"⟩
abbrev cX0_gather : ByteArray := prog_2_method_3_code
def yX0_gather : MethodName := ⟨RX0, "gather", "(LDrawerGloves$Drawer;)V"⟩
abbrev cX0_search : ByteArray := prog_2_method_4_code
def yX0_search : MethodName := ⟨RX0, "search", "(LDrawerGloves$Calendar;III)V"⟩
def RX1 : String := "DrawerGloves$Chances"
def TX1 : u_T := fun k => match k with
  | 0 => ("DrawerGloves$Chances", "loss", "[I", true)
  | 1 => ("DrawerGloves$Chances", "upper", "J", false)
  | _ => ("DrawerGloves$Chances", "lower", "J", false)
def tyX1 : Nat → FieldType := fun k => match k with
  | 0 => .array .int
  | 1 => .long
  | _ => .long
theorem nmX1 : ∀ a, a < 3 → ∀ b, b < 3 → a ≠ b → (TX1 a).2.1 ≠ (TX1 b).2.1 := by decide +kernel
theorem tyX1_ok : ∀ k, k < 3 → parseFieldDescriptor (TX1 k).2.2.1 = some (tyX1 k) := by decide +kernel
abbrev cX1_init : ByteArray := prog_3_method_1_code
def yX1_init : MethodName := ⟨RX1, "<init>", "()V"⟩
abbrev cX1_reckon : ByteArray := prog_3_method_2_code
def yX1_reckon : MethodName := ⟨RX1, "reckon", "(LDrawerGloves$Drawer;II[I)V"⟩
abbrev cX1_lossOf : ByteArray := prog_3_method_3_code
def yX1_lossOf : MethodName := ⟨RX1, "lossOf", "(LDrawerGloves$Glove;II)I"⟩
abbrev cX1_waysTo : ByteArray := prog_3_method_4_code
def yX1_waysTo : MethodName := ⟨RX1, "waysTo", "(LDrawerGloves$Drawer;II)J"⟩
abbrev cX1_commonDivisor : ByteArray := prog_3_method_5_code
def yX1_commonDivisor : MethodName := ⟨RX1, "commonDivisor", "(JJ)J"⟩
def RX2 : String := "DrawerGloves$Deeds"
def TX2 : u_T := fun k => match k with
  | 0 => ("DrawerGloves$Deeds", "codes", "[I", true)
  | _ => ("DrawerGloves$Deeds", "size", "I", false)
def tyX2 : Nat → FieldType := fun k => match k with
  | 0 => .array .int
  | _ => .int
theorem nmX2 : ∀ a, a < 2 → ∀ b, b < 2 → a ≠ b → (TX2 a).2.1 ≠ (TX2 b).2.1 := by decide +kernel
theorem tyX2_ok : ∀ k, k < 2 → parseFieldDescriptor (TX2 k).2.2.1 = some (tyX2 k) := by decide +kernel
abbrev cX2_init : ByteArray := prog_4_method_1_code
def yX2_init : MethodName := ⟨RX2, "<init>", "()V"⟩
abbrev cX2_roomLeft : ByteArray := prog_4_method_2_code
def yX2_roomLeft : MethodName := ⟨RX2, "roomLeft", "()I"⟩
abbrev cX2_add : ByteArray := prog_4_method_3_code
def yX2_add : MethodName := ⟨RX2, "add", "(III)V"⟩
abbrev cX2_becomeLike : ByteArray := prog_4_method_4_code
def yX2_becomeLike : MethodName := ⟨RX2, "becomeLike", "(LDrawerGloves$Deeds;)V"⟩
def RX3 : String := "DrawerGloves$Drawer"
def TX3 : u_T := fun k => match k with
  | 0 => ("DrawerGloves$Drawer", "gloves", "[LDrawerGloves$Glove;", true)
  | 1 => ("DrawerGloves$Drawer", "deeds", "LDrawerGloves$Deeds;", true)
  | 2 => ("DrawerGloves$Drawer", "size", "I", false)
  | _ => ("DrawerGloves$Drawer", "room", "I", false)
def tyX3 : Nat → FieldType := fun k => match k with
  | 0 => .array (.object "DrawerGloves$Glove")
  | 1 => .object "DrawerGloves$Deeds"
  | 2 => .int
  | _ => .int
theorem nmX3 : ∀ a, a < 4 → ∀ b, b < 4 → a ≠ b → (TX3 a).2.1 ≠ (TX3 b).2.1 := by decide +kernel
theorem tyX3_ok : ∀ k, k < 4 → parseFieldDescriptor (TX3 k).2.2.1 = some (tyX3 k) := by decide +kernel
abbrev cX3_init : ByteArray := prog_5_method_1_code
def yX3_init : MethodName := ⟨RX3, "<init>", "()V"⟩
abbrev cX3_fill : ByteArray := prog_5_method_2_code
def yX3_fill : MethodName := ⟨RX3, "fill", "(LDrawerGloves$Reading;)V"⟩
abbrev cX3_has : ByteArray := prog_5_method_3_code
def yX3_has : MethodName := ⟨RX3, "has", "(I)Z"⟩
abbrev cX3_isSet : ByteArray := prog_5_method_4_code
def yX3_isSet : MethodName := ⟨RX3, "isSet", "(I)Z"⟩
abbrev cX3_isInside : ByteArray := prog_5_method_5_code
def yX3_isInside : MethodName := ⟨RX3, "isInside", "(I)Z"⟩
abbrev cX3_canBeLost : ByteArray := prog_5_method_6_code
def yX3_canBeLost : MethodName := ⟨RX3, "canBeLost", "(I)Z"⟩
abbrev cX3_setOf : ByteArray := prog_5_method_7_code
def yX3_setOf : MethodName := ⟨RX3, "setOf", "(I)I"⟩
abbrev cX3_howManyInside : ByteArray := prog_5_method_8_code
def yX3_howManyInside : MethodName := ⟨RX3, "howManyInside", "()I"⟩
abbrev cX3_hasRoom : ByteArray := prog_5_method_9_code
def yX3_hasRoom : MethodName := ⟨RX3, "hasRoom", "()Z"⟩
abbrev cX3_allWear : ByteArray := prog_5_method_10_code
def yX3_allWear : MethodName := ⟨RX3, "allWear", "()I"⟩
abbrev cX3_howManyOf : ByteArray := prog_5_method_11_code
def yX3_howManyOf : MethodName := ⟨RX3, "howManyOf", "(I)I"⟩
abbrev cX3_matesOf : ByteArray := prog_5_method_12_code
def yX3_matesOf : MethodName := ⟨RX3, "matesOf", "(I)I"⟩
abbrev cX3_sameSortAs : ByteArray := prog_5_method_13_code
def yX3_sameSortAs : MethodName := ⟨RX3, "sameSortAs", "(I)I"⟩
abbrev cX3_act : ByteArray := prog_5_method_14_code
def yX3_act : MethodName := ⟨RX3, "act", "(III)V"⟩
abbrev cX3_actByLot : ByteArray := prog_5_method_15_code
def yX3_actByLot : MethodName := ⟨RX3, "actByLot", "(J)V"⟩
abbrev cX3_wearFirstPair : ByteArray := prog_5_method_16_code
def yX3_wearFirstPair : MethodName := ⟨RX3, "wearFirstPair", "()V"⟩
abbrev cX3_replay : ByteArray := prog_5_method_17_code
def yX3_replay : MethodName := ⟨RX3, "replay", "()V"⟩
abbrev cX3_carryOut : ByteArray := prog_5_method_18_code
def yX3_carryOut : MethodName := ⟨RX3, "carryOut", "(III)V"⟩
def RX4 : String := "DrawerGloves$Glove"
def TX4 : u_T := fun k => match k with
  | 0 => ("DrawerGloves$Glove", "kind", "I", false)
  | 1 => ("DrawerGloves$Glove", "sort", "I", false)
  | 2 => ("DrawerGloves$Glove", "hand", "I", false)
  | 3 => ("DrawerGloves$Glove", "warm", "I", false)
  | 4 => ("DrawerGloves$Glove", "wear", "I", false)
  | _ => ("DrawerGloves$Glove", "where", "I", false)
def tyX4 : Nat → FieldType := fun k => match k with
  | 0 => .int
  | 1 => .int
  | 2 => .int
  | 3 => .int
  | 4 => .int
  | _ => .int
theorem nmX4 : ∀ a, a < 6 → ∀ b, b < 6 → a ≠ b → (TX4 a).2.1 ≠ (TX4 b).2.1 := by decide +kernel
theorem tyX4_ok : ∀ k, k < 6 → parseFieldDescriptor (TX4 k).2.2.1 = some (tyX4 k) := by decide +kernel
abbrev cX4_init : ByteArray := prog_6_method_1_code
def yX4_init : MethodName := ⟨RX4, "<init>", "()V"⟩
abbrev cX4_becomeLike : ByteArray := prog_6_method_2_code
def yX4_becomeLike : MethodName := ⟨RX4, "becomeLike", "(LDrawerGloves$Glove;)V"⟩
abbrev cX4_isOf : ByteArray := prog_6_method_3_code
def yX4_isOf : MethodName := ⟨RX4, "isOf", "(I)Z"⟩
abbrev cX4_bareWarmth : ByteArray := prog_6_method_4_code
def yX4_bareWarmth : MethodName := ⟨RX4, "bareWarmth", "()I"⟩
abbrev cX4_warmth : ByteArray := prog_6_method_5_code
def yX4_warmth : MethodName := ⟨RX4, "warmth", "()I"⟩
abbrev cX4_goesOn : ByteArray := prog_6_method_6_code
def yX4_goesOn : MethodName := ⟨RX4, "goesOn", "(I)Z"⟩
abbrev cX4_makesPairWith : ByteArray := prog_6_method_7_code
def yX4_makesPairWith : MethodName := ⟨RX4, "makesPairWith", "(LDrawerGloves$Glove;)Z"⟩
abbrev cX4_goodWith : ByteArray := prog_6_method_8_code
def yX4_goodWith : MethodName := ⟨RX4, "goodWith", "(LDrawerGloves$Glove;)I"⟩
abbrev cX4_tell : ByteArray := prog_6_method_9_code
def yX4_tell : MethodName := ⟨RX4, "tell", "(I)I"⟩
def RX5 : String := "DrawerGloves$Guess"
def TX5 : u_T := fun k => match k with
  | 0 => ("DrawerGloves$Guess", "maybe", "LDrawerGloves$Glove;", true)
  | _ => ("DrawerGloves$Guess", "outcome", "[I", true)
def tyX5 : Nat → FieldType := fun k => match k with
  | 0 => .object "DrawerGloves$Glove"
  | _ => .array .int
theorem nmX5 : ∀ a, a < 2 → ∀ b, b < 2 → a ≠ b → (TX5 a).2.1 ≠ (TX5 b).2.1 := by decide +kernel
theorem tyX5_ok : ∀ k, k < 2 → parseFieldDescriptor (TX5 k).2.2.1 = some (tyX5 k) := by decide +kernel
abbrev cX5_init : ByteArray := prog_7_method_1_code
def yX5_init : MethodName := ⟨RX5, "<init>", "()V"⟩
abbrev cX5_isWellTold : ByteArray := prog_7_method_2_code
def yX5_isWellTold : MethodName := ⟨RX5, "isWellTold", "(LDrawerGloves$Drawer;ILDrawerGloves$Rows;I)Z"⟩
abbrev cX5_agrees : ByteArray := prog_7_method_3_code
def yX5_agrees : MethodName := ⟨RX5, "agrees", "(LDrawerGloves$Drawer;LDrawerGloves$Rows;I)Z"⟩
abbrev cX5_sortsLeft : ByteArray := prog_7_method_4_code
def yX5_sortsLeft : MethodName := ⟨RX5, "sortsLeft", "(LDrawerGloves$Drawer;ILDrawerGloves$Rows;I)I"⟩
abbrev cX5_handsLeft : ByteArray := prog_7_method_5_code
def yX5_handsLeft : MethodName := ⟨RX5, "handsLeft", "(LDrawerGloves$Drawer;ILDrawerGloves$Rows;I)I"⟩
abbrev cX5_kindsLeft : ByteArray := prog_7_method_6_code
def yX5_kindsLeft : MethodName := ⟨RX5, "kindsLeft", "(LDrawerGloves$Drawer;ILDrawerGloves$Rows;I)I"⟩
abbrev cX5_nextTry : ByteArray := prog_7_method_7_code
def yX5_nextTry : MethodName := ⟨RX5, "nextTry", "(LDrawerGloves$Drawer;II)I"⟩
abbrev cX5_greatestPart : ByteArray := prog_7_method_8_code
def yX5_greatestPart : MethodName := ⟨RX5, "greatestPart", "(LDrawerGloves$Drawer;III)I"⟩
abbrev cX5_howManyLike : ByteArray := prog_7_method_9_code
def yX5_howManyLike : MethodName := ⟨RX5, "howManyLike", "(II)I"⟩
abbrev cX5_gainOfStretch : ByteArray := prog_7_method_10_code
def yX5_gainOfStretch : MethodName := ⟨RX5, "gainOfStretch", "(LDrawerGloves$Drawer;I)I"⟩
def RX6 : String := "DrawerGloves$Makings"
def TX6 : u_T := fun k => match k with
  | 0 => ("DrawerGloves$Makings", "worth", "[I", true)
  | 1 => ("DrawerGloves$Makings", "best", "[I", true)
  | 2 => ("DrawerGloves$Makings", "most", "[I", true)
  | _ => ("DrawerGloves$Makings", "enough", "[I", true)
def tyX6 : Nat → FieldType := fun k => match k with
  | 0 => .array .int
  | 1 => .array .int
  | 2 => .array .int
  | _ => .array .int
theorem nmX6 : ∀ a, a < 4 → ∀ b, b < 4 → a ≠ b → (TX6 a).2.1 ≠ (TX6 b).2.1 := by decide +kernel
theorem tyX6_ok : ∀ k, k < 4 → parseFieldDescriptor (TX6 k).2.2.1 = some (tyX6 k) := by decide +kernel
abbrev cX6_init : ByteArray := prog_8_method_1_code
def yX6_init : MethodName := ⟨RX6, "<init>", "()V"⟩
abbrev cX6_weigh : ByteArray := prog_8_method_2_code
def yX6_weigh : MethodName := ⟨RX6, "weigh", "(LDrawerGloves$Drawer;)V"⟩
abbrev cX6_weighWith : ByteArray := prog_8_method_3_code
def yX6_weighWith : MethodName := ⟨RX6, "weighWith", "(II)V"⟩
abbrev cX6_partTo : ByteArray := prog_8_method_4_code
def yX6_partTo : MethodName := ⟨RX6, "partTo", "(LDrawerGloves$Drawer;LDrawerGloves$Rows;I)V"⟩
abbrev cX6_firstMate : ByteArray := prog_8_method_5_code
def yX6_firstMate : MethodName := ⟨RX6, "firstMate", "(LDrawerGloves$Drawer;II)I"⟩
abbrev cX6_safestSet : ByteArray := prog_8_method_6_code
def yX6_safestSet : MethodName := ⟨RX6, "safestSet", "(LDrawerGloves$Drawer;)I"⟩
abbrev cX6_isSafer : ByteArray := prog_8_method_7_code
def yX6_isSafer : MethodName := ⟨RX6, "isSafer", "(LDrawerGloves$Drawer;II)Z"⟩
abbrev cX6_afterWorstLoss : ByteArray := prog_8_method_8_code
def yX6_afterWorstLoss : MethodName := ⟨RX6, "afterWorstLoss", "(LDrawerGloves$Drawer;I)I"⟩
abbrev cX6_markSetsOf : ByteArray := prog_8_method_9_code
def yX6_markSetsOf : MethodName := ⟨RX6, "markSetsOf", "(I)V"⟩
def RX7 : String := "DrawerGloves$Reading"
def TX7 : u_T := fun k => match k with
  | 0 => ("DrawerGloves$Reading", "kind", "[I", true)
  | 1 => ("DrawerGloves$Reading", "sort", "[I", true)
  | 2 => ("DrawerGloves$Reading", "hand", "[I", true)
  | 3 => ("DrawerGloves$Reading", "warm", "[I", true)
  | 4 => ("DrawerGloves$Reading", "size", "I", false)
  | _ => ("DrawerGloves$Reading", "room", "I", false)
def tyX7 : Nat → FieldType := fun k => match k with
  | 0 => .array .int
  | 1 => .array .int
  | 2 => .array .int
  | 3 => .array .int
  | 4 => .int
  | _ => .int
theorem nmX7 : ∀ a, a < 6 → ∀ b, b < 6 → a ≠ b → (TX7 a).2.1 ≠ (TX7 b).2.1 := by decide +kernel
theorem tyX7_ok : ∀ k, k < 6 → parseFieldDescriptor (TX7 k).2.2.1 = some (tyX7 k) := by decide +kernel
abbrev cX7_init : ByteArray := prog_9_method_1_code
def yX7_init : MethodName := ⟨RX7, "<init>", "()V"⟩
abbrev cX7_faultOf : ByteArray := prog_9_method_2_code
def yX7_faultOf : MethodName := ⟨RX7, "faultOf", "(LDrawerGloves$Rows;I)I"⟩
abbrev cX7_faultOfGlove : ByteArray := prog_9_method_3_code
def yX7_faultOfGlove : MethodName := ⟨RX7, "faultOfGlove", "(LDrawerGloves$Rows;II)I"⟩
abbrev cX7_pastBlanks : ByteArray := prog_9_method_4_code
def yX7_pastBlanks : MethodName := ⟨RX7, "pastBlanks", "(LDrawerGloves$Rows;II)I"⟩
abbrev cX7_figure : ByteArray := prog_9_method_5_code
def yX7_figure : MethodName := ⟨RX7, "figure", "(LDrawerGloves$Rows;IIII)I"⟩
abbrev cX7_kindOf : ByteArray := prog_9_method_6_code
def yX7_kindOf : MethodName := ⟨RX7, "kindOf", "(I)I"⟩
def RX8 : String := "DrawerGloves$Rivals"
def TX8 : u_T := fun k => match k with
  | 0 => ("DrawerGloves$Rivals", "known", "[I", true)
  | _ => ("DrawerGloves$Rivals", "inThrees", "[I", true)
def tyX8 : Nat → FieldType := fun k => match k with
  | 0 => .array .int
  | _ => .array .int
theorem nmX8 : ∀ a, a < 2 → ∀ b, b < 2 → a ≠ b → (TX8 a).2.1 ≠ (TX8 b).2.1 := by decide +kernel
theorem tyX8_ok : ∀ k, k < 2 → parseFieldDescriptor (TX8 k).2.2.1 = some (tyX8 k) := by decide +kernel
abbrev cX8_init : ByteArray := prog_10_method_1_code
def yX8_init : MethodName := ⟨RX8, "<init>", "()V"⟩
abbrev cX8_leadAfter : ByteArray := prog_10_method_2_code
def yX8_leadAfter : MethodName := ⟨RX8, "leadAfter", "(LDrawerGloves$Makings;II)I"⟩
abbrev cX8_lead : ByteArray := prog_10_method_3_code
def yX8_lead : MethodName := ⟨RX8, "lead", "(LDrawerGloves$Rivals;LDrawerGloves$Makings;IIII)I"⟩
def RX9 : String := "DrawerGloves$Rows"
def TX9 : u_T := fun k => match k with
  | 0 => ("DrawerGloves$Rows", "places", "[[I", true)
  | 1 => ("DrawerGloves$Rows", "sizes", "[I", true)
  | 2 => ("DrawerGloves$Rows", "mostPlaces", "I", true)
  | _ => ("DrawerGloves$Rows", "filler", "I", true)
def tyX9 : Nat → FieldType := fun k => match k with
  | 0 => .array (.array .int)
  | 1 => .array .int
  | 2 => .int
  | _ => .int
theorem nmX9 : ∀ a, a < 4 → ∀ b, b < 4 → a ≠ b → (TX9 a).2.1 ≠ (TX9 b).2.1 := by decide +kernel
theorem tyX9_ok : ∀ k, k < 4 → parseFieldDescriptor (TX9 k).2.2.1 = some (tyX9 k) := by decide +kernel
abbrev cX9_init : ByteArray := prog_11_method_1_code
def yX9_init : MethodName := ⟨RX9, "<init>", "(III)V"⟩
abbrev cX9_isNumber : ByteArray := prog_11_method_2_code
def yX9_isNumber : MethodName := ⟨RX9, "isNumber", "(I)Z"⟩
abbrev cX9_sizeOf : ByteArray := prog_11_method_3_code
def yX9_sizeOf : MethodName := ⟨RX9, "sizeOf", "(I)I"⟩
abbrev cX9_isThere : ByteArray := prog_11_method_4_code
def yX9_isThere : MethodName := ⟨RX9, "isThere", "(I)Z"⟩
abbrev cX9_holds : ByteArray := prog_11_method_5_code
def yX9_holds : MethodName := ⟨RX9, "holds", "(II)Z"⟩
abbrev cX9_reaches : ByteArray := prog_11_method_6_code
def yX9_reaches : MethodName := ⟨RX9, "reaches", "(III)Z"⟩
abbrev cX9_begin : ByteArray := prog_11_method_7_code
def yX9_begin : MethodName := ⟨RX9, "begin", "(II)V"⟩
abbrev cX9_drop : ByteArray := prog_11_method_8_code
def yX9_drop : MethodName := ⟨RX9, "drop", "(I)V"⟩
abbrev cX9_read : ByteArray := prog_11_method_9_code
def yX9_read : MethodName := ⟨RX9, "read", "(II)I"⟩
abbrev cX9_write : ByteArray := prog_11_method_10_code
def yX9_write : MethodName := ⟨RX9, "write", "(III)V"⟩
abbrev cX9_move : ByteArray := prog_11_method_11_code
def yX9_move : MethodName := ⟨RX9, "move", "(IIIII)V"⟩
abbrev cX9_total : ByteArray := prog_11_method_12_code
def yX9_total : MethodName := ⟨RX9, "total", "(I)J"⟩
abbrev cX9_howManyThere : ByteArray := prog_11_method_13_code
def yX9_howManyThere : MethodName := ⟨RX9, "howManyThere", "()I"⟩
abbrev cX9_digestOn : ByteArray := prog_11_method_14_code
def yX9_digestOn : MethodName := ⟨RX9, "digestOn", "(J)J"⟩
def RX10 : String := "DrawerGloves"
def TX10 : u_T := fun k => match k with
  | 0 => ("DrawerGloves", "rows", "LDrawerGloves$Rows;", true)
  | 1 => ("DrawerGloves", "texts", "LDrawerGloves$Rows;", true)
  | 2 => ("DrawerGloves", "reading", "LDrawerGloves$Reading;", true)
  | 3 => ("DrawerGloves", "chest", "LDrawerGloves$Drawer;", true)
  | 4 => ("DrawerGloves", "kept", "[LDrawerGloves$Deeds;", true)
  | 5 => ("DrawerGloves", "makings", "LDrawerGloves$Makings;", true)
  | 6 => ("DrawerGloves", "calendar", "LDrawerGloves$Calendar;", true)
  | 7 => ("DrawerGloves", "guess", "LDrawerGloves$Guess;", true)
  | 8 => ("DrawerGloves", "rivals", "LDrawerGloves$Rivals;", true)
  | 9 => ("DrawerGloves", "chances", "LDrawerGloves$Chances;", true)
  | 10 => ("DrawerGloves", "found", "[I", true)
  | 11 => ("DrawerGloves", "lastFound", "I", false)
  | _ => ("DrawerGloves", "lastAsked", "I", false)
def tyX10 : Nat → FieldType := fun k => match k with
  | 0 => .object "DrawerGloves$Rows"
  | 1 => .object "DrawerGloves$Rows"
  | 2 => .object "DrawerGloves$Reading"
  | 3 => .object "DrawerGloves$Drawer"
  | 4 => .array (.object "DrawerGloves$Deeds")
  | 5 => .object "DrawerGloves$Makings"
  | 6 => .object "DrawerGloves$Calendar"
  | 7 => .object "DrawerGloves$Guess"
  | 8 => .object "DrawerGloves$Rivals"
  | 9 => .object "DrawerGloves$Chances"
  | 10 => .array .int
  | 11 => .int
  | _ => .int
theorem nmX10 : ∀ a, a < 13 → ∀ b, b < 13 → a ≠ b → (TX10 a).2.1 ≠ (TX10 b).2.1 := by decide +kernel
theorem tyX10_ok : ∀ k, k < 13 → parseFieldDescriptor (TX10 k).2.2.1 = some (tyX10 k) := by decide +kernel
abbrev cX10_init : ByteArray := prog_1_method_1_code
def yX10_init : MethodName := ⟨RX10, "<init>", "()V"⟩
abbrev cX10_row : ByteArray := prog_1_method_2_code
def yX10_row : MethodName := ⟨RX10, "row", "(II)I"⟩
abbrev cX10_lay : ByteArray := prog_1_method_3_code
def yX10_lay : MethodName := ⟨RX10, "lay", "(III)I"⟩
abbrev cX10_at : ByteArray := prog_1_method_4_code
def yX10_at : MethodName := ⟨RX10, "at", "(II)I"⟩
abbrev cX10_tear : ByteArray := prog_1_method_5_code
def yX10_tear : MethodName := ⟨RX10, "tear", "(I)I"⟩
abbrev cX10_copy : ByteArray := prog_1_method_6_code
def yX10_copy : MethodName := ⟨RX10, "copy", "(IIIII)I"⟩
abbrev cX10_mean : ByteArray := prog_1_method_7_code
def yX10_mean : MethodName := ⟨RX10, "mean", "(I)I"⟩
abbrev cX10_text : ByteArray := prog_1_method_8_code
def yX10_text : MethodName := ⟨RX10, "text", "(II)I"⟩
abbrev cX10_put : ByteArray := prog_1_method_9_code
def yX10_put : MethodName := ⟨RX10, "put", "(III)I"⟩
abbrev cX10_fault : ByteArray := prog_1_method_10_code
def yX10_fault : MethodName := ⟨RX10, "fault", "(I)I"⟩
abbrev cX10_drawer : ByteArray := prog_1_method_11_code
def yX10_drawer : MethodName := ⟨RX10, "drawer", "(I)I"⟩
abbrev cX10_glove : ByteArray := prog_1_method_12_code
def yX10_glove : MethodName := ⟨RX10, "glove", "(II)I"⟩
abbrev cX10_mark : ByteArray := prog_1_method_13_code
def yX10_mark : MethodName := ⟨RX10, "mark", "(II)I"⟩
abbrev cX10_pair : ByteArray := prog_1_method_14_code
def yX10_pair : MethodName := ⟨RX10, "pair", "(II)I"⟩
abbrev cX10_wear : ByteArray := prog_1_method_15_code
def yX10_wear : MethodName := ⟨RX10, "wear", "(II)I"⟩
abbrev cX10_lose : ByteArray := prog_1_method_16_code
def yX10_lose : MethodName := ⟨RX10, "lose", "(I)I"⟩
abbrev cX10_back : ByteArray := prog_1_method_17_code
def yX10_back : MethodName := ⟨RX10, "back", "(I)I"⟩
abbrev cX10_out : ByteArray := prog_1_method_18_code
def yX10_out : MethodName := ⟨RX10, "out", "(I)I"⟩
abbrev cX10_undo : ByteArray := prog_1_method_19_code
def yX10_undo : MethodName := ⟨RX10, "undo", "(I)I"⟩
abbrev cX10_keep : ByteArray := prog_1_method_20_code
def yX10_keep : MethodName := ⟨RX10, "keep", "(I)I"⟩
abbrev cX10_on : ByteArray := prog_1_method_21_code
def yX10_on : MethodName := ⟨RX10, "on", "(I)I"⟩
abbrev cX10_good : ByteArray := prog_1_method_22_code
def yX10_good : MethodName := ⟨RX10, "good", "(I)I"⟩
abbrev cX10_pairs : ByteArray := prog_1_method_23_code
def yX10_pairs : MethodName := ⟨RX10, "pairs", "(I)I"⟩
abbrev cX10_missed : ByteArray := prog_1_method_24_code
def yX10_missed : MethodName := ⟨RX10, "missed", "()I"⟩
abbrev cX10_wished : ByteArray := prog_1_method_25_code
def yX10_wished : MethodName := ⟨RX10, "wished", "()I"⟩
abbrev cX10_days : ByteArray := prog_1_method_26_code
def yX10_days : MethodName := ⟨RX10, "days", "(II)I"⟩
abbrev cX10_room : ByteArray := prog_1_method_27_code
def yX10_room : MethodName := ⟨RX10, "room", "()I"⟩
abbrev cX10_join : ByteArray := prog_1_method_28_code
def yX10_join : MethodName := ⟨RX10, "join", "(II)I"⟩
abbrev cX10_sorts : ByteArray := prog_1_method_29_code
def yX10_sorts : MethodName := ⟨RX10, "sorts", "(II)I"⟩
abbrev cX10_hands : ByteArray := prog_1_method_30_code
def yX10_hands : MethodName := ⟨RX10, "hands", "(II)I"⟩
abbrev cX10_kinds : ByteArray := prog_1_method_31_code
def yX10_kinds : MethodName := ⟨RX10, "kinds", "(II)I"⟩
abbrev cX10_test : ByteArray := prog_1_method_32_code
def yX10_test : MethodName := ⟨RX10, "test", "(II)I"⟩
abbrev cX10_duel : ByteArray := prog_1_method_33_code
def yX10_duel : MethodName := ⟨RX10, "duel", "(I)I"⟩
abbrev cX10_odds : ByteArray := prog_1_method_34_code
def yX10_odds : MethodName := ⟨RX10, "odds", "(III)I"⟩
abbrev cX10_mid : ByteArray := prog_1_method_35_code
def yX10_mid : MethodName := ⟨RX10, "mid", "(II)I"⟩
abbrev cX10_lots : ByteArray := prog_1_method_36_code
def yX10_lots : MethodName := ⟨RX10, "lots", "(II)I"⟩
abbrev cX10_asked : ByteArray := prog_1_method_37_code
def yX10_asked : MethodName := ⟨RX10, "asked", "()I"⟩
abbrev cX10_upper : ByteArray := prog_1_method_38_code
def yX10_upper : MethodName := ⟨RX10, "upper", "()J"⟩
abbrev cX10_lower : ByteArray := prog_1_method_39_code
def yX10_lower : MethodName := ⟨RX10, "lower", "()J"⟩
abbrev cX10_count : ByteArray := prog_1_method_40_code
def yX10_count : MethodName := ⟨RX10, "count", "(I)I"⟩
abbrev cX10_finding : ByteArray := prog_1_method_41_code
def yX10_finding : MethodName := ⟨RX10, "finding", "()I"⟩
abbrev cX10_findings : ByteArray := prog_1_method_42_code
def yX10_findings : MethodName := ⟨RX10, "findings", "(I)I"⟩
abbrev cX10_digest : ByteArray := prog_1_method_43_code
def yX10_digest : MethodName := ⟨RX10, "digest", "()J"⟩
abbrev cX10_finds : ByteArray := prog_1_method_44_code
def yX10_finds : MethodName := ⟨RX10, "finds", "(I)I"⟩
abbrev cX10_tells : ByteArray := prog_1_method_45_code
def yX10_tells : MethodName := ⟨RX10, "tells", "(I)I"⟩
abbrev cX10_refusedRow : ByteArray := prog_1_method_46_code
def yX10_refusedRow : MethodName := ⟨RX10, "refusedRow", "(I)I"⟩
abbrev cX10_refusedPlace : ByteArray := prog_1_method_47_code
def yX10_refusedPlace : MethodName := ⟨RX10, "refusedPlace", "(II)I"⟩
abbrev cX10_refusedText : ByteArray := prog_1_method_48_code
def yX10_refusedText : MethodName := ⟨RX10, "refusedText", "(I)I"⟩
abbrev cX10_refusedGuess : ByteArray := prog_1_method_49_code
def yX10_refusedGuess : MethodName := ⟨RX10, "refusedGuess", "(II)I"⟩
abbrev cX10_greatestChange : ByteArray := prog_1_method_50_code
def yX10_greatestChange : MethodName := ⟨RX10, "greatestChange", "(I)I"⟩
abbrev cX10_howManyKept : ByteArray := prog_1_method_51_code
def yX10_howManyKept : MethodName := ⟨RX10, "howManyKept", "()I"⟩
abbrev cX10_isChance : ByteArray := prog_1_method_52_code
def yX10_isChance : MethodName := ⟨RX10, "isChance", "(I)Z"⟩
def RX11 : String := "DrawerGlovesModel"
def TX11 : u_T := fun k => match k with
  | 0 => ("DrawerGlovesModel", "asked", "I", false)
  | 1 => ("DrawerGlovesModel", "up", "J", false)
  | 2 => ("DrawerGlovesModel", "down", "J", false)
  | 3 => ("DrawerGlovesModel", "latest", "I", false)
  | 4 => ("DrawerGlovesModel", "found", "[I", true)
  | 5 => ("DrawerGlovesModel", "cells", "[I", true)
  | 6 => ("DrawerGlovesModel", "rowSize", "[I", true)
  | 7 => ("DrawerGlovesModel", "bytes", "[B", true)
  | 8 => ("DrawerGlovesModel", "textSize", "[I", true)
  | 9 => ("DrawerGlovesModel", "taken", "[I", true)
  | 10 => ("DrawerGlovesModel", "draftRoom", "I", false)
  | 11 => ("DrawerGlovesModel", "draftGloves", "I", false)
  | 12 => ("DrawerGlovesModel", "draftKind", "[I", true)
  | 13 => ("DrawerGlovesModel", "draftSort", "[I", true)
  | 14 => ("DrawerGlovesModel", "draftHand", "[I", true)
  | 15 => ("DrawerGlovesModel", "draftWarm", "[I", true)
  | 16 => ("DrawerGlovesModel", "reading", "I", false)
  | 17 => ("DrawerGlovesModel", "place", "I", false)
  | 18 => ("DrawerGlovesModel", "fault", "I", false)
  | 19 => ("DrawerGlovesModel", "room", "I", false)
  | 20 => ("DrawerGlovesModel", "gloves", "I", false)
  | 21 => ("DrawerGlovesModel", "kind", "[I", true)
  | 22 => ("DrawerGlovesModel", "sort", "[I", true)
  | 23 => ("DrawerGlovesModel", "hand", "[I", true)
  | 24 => ("DrawerGlovesModel", "warm", "[I", true)
  | 25 => ("DrawerGlovesModel", "where", "[I", true)
  | 26 => ("DrawerGlovesModel", "worn", "[I", true)
  | 27 => ("DrawerGlovesModel", "deeds", "I", false)
  | 28 => ("DrawerGlovesModel", "deed", "[I", true)
  | 29 => ("DrawerGlovesModel", "keptDeeds", "[I", true)
  | 30 => ("DrawerGlovesModel", "keptDeed", "[I", true)
  | 31 => ("DrawerGlovesModel", "best", "[I", true)
  | 32 => ("DrawerGlovesModel", "most", "[I", true)
  | 33 => ("DrawerGlovesModel", "twos", "[I", true)
  | 34 => ("DrawerGlovesModel", "many", "I", false)
  | _ => ("DrawerGlovesModel", "worth", "[I", true)
def tyX11 : Nat → FieldType := fun k => match k with
  | 0 => .int
  | 1 => .long
  | 2 => .long
  | 3 => .int
  | 4 => .array .int
  | 5 => .array .int
  | 6 => .array .int
  | 7 => .array .byte
  | 8 => .array .int
  | 9 => .array .int
  | 10 => .int
  | 11 => .int
  | 12 => .array .int
  | 13 => .array .int
  | 14 => .array .int
  | 15 => .array .int
  | 16 => .int
  | 17 => .int
  | 18 => .int
  | 19 => .int
  | 20 => .int
  | 21 => .array .int
  | 22 => .array .int
  | 23 => .array .int
  | 24 => .array .int
  | 25 => .array .int
  | 26 => .array .int
  | 27 => .int
  | 28 => .array .int
  | 29 => .array .int
  | 30 => .array .int
  | 31 => .array .int
  | 32 => .array .int
  | 33 => .array .int
  | 34 => .int
  | _ => .array .int
theorem nmX11 : ∀ a, a < 36 → ∀ b, b < 36 → a ≠ b → (TX11 a).2.1 ≠ (TX11 b).2.1 := by decide +kernel
theorem tyX11_ok : ∀ k, k < 36 → parseFieldDescriptor (TX11 k).2.2.1 = some (tyX11 k) := by decide +kernel
abbrev cX11_init : ByteArray := prog_13_method_1_code
def yX11_init : MethodName := ⟨RX11, "<init>", "()V"⟩
abbrev cX11_in : ByteArray := prog_13_method_3_code
def yX11_in : MethodName := ⟨RX11, "in", "(III)Z"⟩
abbrev cX11_refuse : ByteArray := prog_13_method_4_code
def yX11_refuse : MethodName := ⟨RX11, "refuse", "(I)I"⟩
abbrev cX11_tellsAsked : ByteArray := prog_13_method_5_code
def yX11_tellsAsked : MethodName := ⟨RX11, "tellsAsked", "(I)I"⟩
abbrev cX11_tellPart : ByteArray := prog_13_method_6_code
def yX11_tellPart : MethodName := ⟨RX11, "tellPart", "(JJ)V"⟩
abbrev cX11_isRow : ByteArray := prog_13_method_7_code
def yX11_isRow : MethodName := ⟨RX11, "isRow", "(I)Z"⟩
abbrev cX11_clearRow : ByteArray := prog_13_method_8_code
def yX11_clearRow : MethodName := ⟨RX11, "clearRow", "(II)V"⟩
abbrev cX11_row : ByteArray := prog_13_method_9_code
def yX11_row : MethodName := ⟨RX11, "row", "(II)I"⟩
abbrev cX11_lay : ByteArray := prog_13_method_10_code
def yX11_lay : MethodName := ⟨RX11, "lay", "(III)I"⟩
abbrev cX11_at : ByteArray := prog_13_method_11_code
def yX11_at : MethodName := ⟨RX11, "at", "(II)I"⟩
abbrev cX11_tear : ByteArray := prog_13_method_12_code
def yX11_tear : MethodName := ⟨RX11, "tear", "(I)I"⟩
abbrev cX11_copy : ByteArray := prog_13_method_13_code
def yX11_copy : MethodName := ⟨RX11, "copy", "(IIIII)I"⟩
abbrev cX11_mean : ByteArray := prog_13_method_14_code
def yX11_mean : MethodName := ⟨RX11, "mean", "(I)I"⟩
abbrev cX11_isText : ByteArray := prog_13_method_15_code
def yX11_isText : MethodName := ⟨RX11, "isText", "(I)Z"⟩
abbrev cX11_text : ByteArray := prog_13_method_16_code
def yX11_text : MethodName := ⟨RX11, "text", "(II)I"⟩
abbrev cX11_put : ByteArray := prog_13_method_17_code
def yX11_put : MethodName := ⟨RX11, "put", "(III)I"⟩
abbrev cX11_here : ByteArray := prog_13_method_18_code
def yX11_here : MethodName := ⟨RX11, "here", "()I"⟩
abbrev cX11_skip : ByteArray := prog_13_method_19_code
def yX11_skip : MethodName := ⟨RX11, "skip", "()V"⟩
abbrev cX11_figure : ByteArray := prog_13_method_20_code
def yX11_figure : MethodName := ⟨RX11, "figure", "(II)I"⟩
abbrev cX11_kindBy : ByteArray := prog_13_method_21_code
def yX11_kindBy : MethodName := ⟨RX11, "kindBy", "(I)I"⟩
abbrev cX11_readGlove : ByteArray := prog_13_method_22_code
def yX11_readGlove : MethodName := ⟨RX11, "readGlove", "()V"⟩
abbrev cX11_read : ByteArray := prog_13_method_23_code
def yX11_read : MethodName := ⟨RX11, "read", "(I)V"⟩
abbrev cX11_fault : ByteArray := prog_13_method_24_code
def yX11_fault : MethodName := ⟨RX11, "fault", "(I)I"⟩
abbrev cX11_drawer : ByteArray := prog_13_method_25_code
def yX11_drawer : MethodName := ⟨RX11, "drawer", "(I)I"⟩
abbrev cX11_isGlove : ByteArray := prog_13_method_26_code
def yX11_isGlove : MethodName := ⟨RX11, "isGlove", "(I)Z"⟩
abbrev cX11_all : ByteArray := prog_13_method_27_code
def yX11_all : MethodName := ⟨RX11, "all", "()I"⟩
abbrev cX11_isOf : ByteArray := prog_13_method_28_code
def yX11_isOf : MethodName := ⟨RX11, "isOf", "(II)Z"⟩
abbrev cX11_warmthAs : ByteArray := prog_13_method_29_code
def yX11_warmthAs : MethodName := ⟨RX11, "warmthAs", "(II)I"⟩
abbrev cX11_goesOn : ByteArray := prog_13_method_30_code
def yX11_goesOn : MethodName := ⟨RX11, "goesOn", "(II)I"⟩
abbrev cX11_pairAs : ByteArray := prog_13_method_31_code
def yX11_pairAs : MethodName := ⟨RX11, "pairAs", "(IIIII)I"⟩
abbrev cX11_pairOf : ByteArray := prog_13_method_32_code
def yX11_pairOf : MethodName := ⟨RX11, "pairOf", "(II)I"⟩
abbrev cX11_setIn : ByteArray := prog_13_method_33_code
def yX11_setIn : MethodName := ⟨RX11, "setIn", "(I)I"⟩
abbrev cX11_manyOf : ByteArray := prog_13_method_34_code
def yX11_manyOf : MethodName := ⟨RX11, "manyOf", "(I)I"⟩
abbrev cX11_inDrawer : ByteArray := prog_13_method_35_code
def yX11_inDrawer : MethodName := ⟨RX11, "inDrawer", "()I"⟩
abbrev cX11_happen : ByteArray := prog_13_method_36_code
def yX11_happen : MethodName := ⟨RX11, "happen", "(III)V"⟩
abbrev cX11_goThrough : ByteArray := prog_13_method_37_code
def yX11_goThrough : MethodName := ⟨RX11, "goThrough", "()V"⟩
abbrev cX11_does : ByteArray := prog_13_method_38_code
def yX11_does : MethodName := ⟨RX11, "does", "(III)V"⟩
abbrev cX11_ofGlove : ByteArray := prog_13_method_39_code
def yX11_ofGlove : MethodName := ⟨RX11, "ofGlove", "(II)I"⟩
abbrev cX11_glove : ByteArray := prog_13_method_40_code
def yX11_glove : MethodName := ⟨RX11, "glove", "(II)I"⟩
abbrev cX11_mark : ByteArray := prog_13_method_41_code
def yX11_mark : MethodName := ⟨RX11, "mark", "(II)I"⟩
abbrev cX11_areTwo : ByteArray := prog_13_method_42_code
def yX11_areTwo : MethodName := ⟨RX11, "areTwo", "(II)Z"⟩
abbrev cX11_pair : ByteArray := prog_13_method_43_code
def yX11_pair : MethodName := ⟨RX11, "pair", "(II)I"⟩
abbrev cX11_wear : ByteArray := prog_13_method_44_code
def yX11_wear : MethodName := ⟨RX11, "wear", "(II)I"⟩
abbrev cX11_lose : ByteArray := prog_13_method_45_code
def yX11_lose : MethodName := ⟨RX11, "lose", "(I)I"⟩
abbrev cX11_back : ByteArray := prog_13_method_46_code
def yX11_back : MethodName := ⟨RX11, "back", "(I)I"⟩
abbrev cX11_out : ByteArray := prog_13_method_47_code
def yX11_out : MethodName := ⟨RX11, "out", "(I)I"⟩
abbrev cX11_undo : ByteArray := prog_13_method_48_code
def yX11_undo : MethodName := ⟨RX11, "undo", "(I)I"⟩
abbrev cX11_keep : ByteArray := prog_13_method_49_code
def yX11_keep : MethodName := ⟨RX11, "keep", "(I)I"⟩
abbrev cX11_on : ByteArray := prog_13_method_50_code
def yX11_on : MethodName := ⟨RX11, "on", "(I)I"⟩
abbrev cX11_lowestOf : ByteArray := prog_13_method_51_code
def yX11_lowestOf : MethodName := ⟨RX11, "lowestOf", "(I)I"⟩
abbrev cX11_measure : ByteArray := prog_13_method_52_code
def yX11_measure : MethodName := ⟨RX11, "measure", "()V"⟩
abbrev cX11_good : ByteArray := prog_13_method_53_code
def yX11_good : MethodName := ⟨RX11, "good", "(I)I"⟩
abbrev cX11_pairs : ByteArray := prog_13_method_54_code
def yX11_pairs : MethodName := ⟨RX11, "pairs", "(I)I"⟩
abbrev cX11_missed : ByteArray := prog_13_method_55_code
def yX11_missed : MethodName := ⟨RX11, "missed", "()I"⟩
abbrev cX11_wished : ByteArray := prog_13_method_56_code
def yX11_wished : MethodName := ⟨RX11, "wished", "()I"⟩
abbrev cX11_listTwos : ByteArray := prog_13_method_57_code
def yX11_listTwos : MethodName := ⟨RX11, "listTwos", "()V"⟩
abbrev cX11_useOf : ByteArray := prog_13_method_58_code
def yX11_useOf : MethodName := ⟨RX11, "useOf", "(I)I"⟩
abbrev cX11_takeOff : ByteArray := prog_13_method_59_code
def yX11_takeOff : MethodName := ⟨RX11, "takeOff", "(I)V"⟩
abbrev cX11_days : ByteArray := prog_13_method_60_code
def yX11_days : MethodName := ⟨RX11, "days", "(II)I"⟩
abbrev cX11_worstOf : ByteArray := prog_13_method_61_code
def yX11_worstOf : MethodName := ⟨RX11, "worstOf", "(I)I"⟩
abbrev cX11_room : ByteArray := prog_13_method_62_code
def yX11_room : MethodName := ⟨RX11, "room", "()I"⟩
abbrev cX11_join : ByteArray := prog_13_method_63_code
def yX11_join : MethodName := ⟨RX11, "join", "(II)I"⟩
abbrev cX11_judge : ByteArray := prog_13_method_64_code
def yX11_judge : MethodName := ⟨RX11, "judge", "(II)I"⟩
abbrev cX11_isSo : ByteArray := prog_13_method_65_code
def yX11_isSo : MethodName := ⟨RX11, "isSo", "(IIIII)Z"⟩
abbrev cX11_sorts : ByteArray := prog_13_method_66_code
def yX11_sorts : MethodName := ⟨RX11, "sorts", "(II)I"⟩
abbrev cX11_hands : ByteArray := prog_13_method_67_code
def yX11_hands : MethodName := ⟨RX11, "hands", "(II)I"⟩
abbrev cX11_kindsBy : ByteArray := prog_13_method_68_code
def yX11_kindsBy : MethodName := ⟨RX11, "kindsBy", "(II)I"⟩
abbrev cX11_kinds : ByteArray := prog_13_method_69_code
def yX11_kinds : MethodName := ⟨RX11, "kinds", "(II)I"⟩
abbrev cX11_partBy : ByteArray := prog_13_method_70_code
def yX11_partBy : MethodName := ⟨RX11, "partBy", "(III)I"⟩
abbrev cX11_test : ByteArray := prog_13_method_71_code
def yX11_test : MethodName := ⟨RX11, "test", "(II)I"⟩
abbrev cX11_unitOf : ByteArray := prog_13_method_72_code
def yX11_unitOf : MethodName := ⟨RX11, "unitOf", "(I)I"⟩
abbrev cX11_hasOf : ByteArray := prog_13_method_73_code
def yX11_hasOf : MethodName := ⟨RX11, "hasOf", "(II)I"⟩
abbrev cX11_duel : ByteArray := prog_13_method_74_code
def yX11_duel : MethodName := ⟨RX11, "duel", "(I)I"⟩
abbrev cX11_bestTurn : ByteArray := prog_13_method_75_code
def yX11_bestTurn : MethodName := ⟨RX11, "bestTurn", "(III)I"⟩
abbrev cX11_areOf : ByteArray := prog_13_method_76_code
def yX11_areOf : MethodName := ⟨RX11, "areOf", "(II)Z"⟩
abbrev cX11_lossOf : ByteArray := prog_13_method_77_code
def yX11_lossOf : MethodName := ⟨RX11, "lossOf", "(III)I"⟩
abbrev cX11_waysOf : ByteArray := prog_13_method_78_code
def yX11_waysOf : MethodName := ⟨RX11, "waysOf", "(IIII)J"⟩
abbrev cX11_allWays : ByteArray := prog_13_method_79_code
def yX11_allWays : MethodName := ⟨RX11, "allWays", "(I)J"⟩
abbrev cX11_odds : ByteArray := prog_13_method_80_code
def yX11_odds : MethodName := ⟨RX11, "odds", "(III)I"⟩
abbrev cX11_mid : ByteArray := prog_13_method_81_code
def yX11_mid : MethodName := ⟨RX11, "mid", "(II)I"⟩
abbrev cX11_lots : ByteArray := prog_13_method_82_code
def yX11_lots : MethodName := ⟨RX11, "lots", "(II)I"⟩
abbrev cX11_asked : ByteArray := prog_13_method_83_code
def yX11_asked : MethodName := ⟨RX11, "asked", "()I"⟩
abbrev cX11_upper : ByteArray := prog_13_method_84_code
def yX11_upper : MethodName := ⟨RX11, "upper", "()J"⟩
abbrev cX11_lower : ByteArray := prog_13_method_85_code
def yX11_lower : MethodName := ⟨RX11, "lower", "()J"⟩
abbrev cX11_count : ByteArray := prog_13_method_86_code
def yX11_count : MethodName := ⟨RX11, "count", "(I)I"⟩
abbrev cX11_finding : ByteArray := prog_13_method_87_code
def yX11_finding : MethodName := ⟨RX11, "finding", "()I"⟩
abbrev cX11_findings : ByteArray := prog_13_method_88_code
def yX11_findings : MethodName := ⟨RX11, "findings", "(I)I"⟩
abbrev cX11_digest : ByteArray := prog_13_method_89_code
def yX11_digest : MethodName := ⟨RX11, "digest", "()J"⟩
def RJ6 : String := "java/lang/Integer"
def TJ6 : u_T := fun k => match k with
  | _ => ("", "", "", false)
def tyJ6 : Nat → FieldType := fun k => match k with
  | _ => .int
abbrev cJ6_bitCount_0f7a4 : ByteArray := prog_14_method_49_code
def yJ6_bitCount_0f7a4 : MethodName := ⟨RJ6, "bitCount", "(I)I"⟩
def RJ9 : String := "java/lang/Math"
def TJ9 : u_T := fun k => match k with
  | _ => ("", "", "", false)
def tyJ9 : Nat → FieldType := fun k => match k with
  | _ => .int
def RJ10 : String := "java/lang/System"
def TJ10 : u_T := fun k => match k with
  | _ => ("", "", "", false)
def tyJ10 : Nat → FieldType := fun k => match k with
  | _ => .int
def RL : String := "DrawerGlovesLaw"
abbrev cL_law : ByteArray := code
def yL_law : MethodName := ⟨RL, "law", "([I)Z"⟩
abbrev vwCl : List vw_C := [(RX0, TX0, 7), (RX1, TX1, 3), (RX2, TX2, 2), (RX3, TX3, 4), (RX4, TX4, 6), (RX5, TX5, 2), (RX6, TX6, 4), (RX7, TX7, 6), (RX8, TX8, 2), (RX9, TX9, 4), (RX10, TX10, 13), (RX11, TX11, 36)]
theorem mm_s (w : Cond) (h : w ∈ k2_sels lw_privs) : w ∈ lw_tbl := List.mem_append_left _ h
theorem mm_t (w : Cond) (h : w ∈ tables_1) : w ∈ lw_tbl := List.mem_append_right _ h
theorem mm_1 {w : Cond} (h : w ∈ tables_1_1) : w ∈ lw_tbl := mm_t _ (List.mem_append_left _ h)
theorem mm_2 {w : Cond} (h : w ∈ tables_1_2) : w ∈ lw_tbl := mm_t _ (List.mem_append_right _ (List.mem_append_left _ h))
theorem mm_3 {w : Cond} (h : w ∈ tables_1_3) : w ∈ lw_tbl := mm_t _ (List.mem_append_right _ (List.mem_append_right _ (List.mem_append_left _ h)))
theorem mm_4 {w : Cond} (h : w ∈ tables_1_4) : w ∈ lw_tbl := mm_t _ (List.mem_append_right _ (List.mem_append_right _ (List.mem_append_right _ (List.mem_append_left _ h))))
theorem mm_5 {w : Cond} (h : w ∈ tables_1_5) : w ∈ lw_tbl := mm_t _ (List.mem_append_right _ (List.mem_append_right _ (List.mem_append_right _ (List.mem_append_right _ (List.mem_append_left _ h)))))
theorem mm_6 {w : Cond} (h : w ∈ tables_1_6) : w ∈ lw_tbl := mm_t _ (List.mem_append_right _ (List.mem_append_right _ (List.mem_append_right _ (List.mem_append_right _ (List.mem_append_right _ (h))))))
theorem mp_1 {q : MethodName × Nat} (h : q ∈ lw_privs_1) : Cond.selects q.1.cls q.1 q.1 ∈ lw_tbl := mm_s _ (List.mem_map.mpr ⟨q, List.mem_append_left _ h, rfl⟩)
theorem mp_2 {q : MethodName × Nat} (h : q ∈ lw_privs_2) : Cond.selects q.1.cls q.1 q.1 ∈ lw_tbl := mm_s _ (List.mem_map.mpr ⟨q, List.mem_append_right _ (List.mem_append_left _ h), rfl⟩)
theorem mp_3 {q : MethodName × Nat} (h : q ∈ lw_privs_3) : Cond.selects q.1.cls q.1 q.1 ∈ lw_tbl := mm_s _ (List.mem_map.mpr ⟨q, List.mem_append_right _ (List.mem_append_right _ (List.mem_append_left _ h)), rfl⟩)
theorem mp_4 {q : MethodName × Nat} (h : q ∈ lw_privs_4) : Cond.selects q.1.cls q.1 q.1 ∈ lw_tbl := mm_s _ (List.mem_map.mpr ⟨q, List.mem_append_right _ (List.mem_append_right _ (List.mem_append_right _ (h))), rfl⟩)
/-- the words that a call carries on -/
def gtbl : List Cond := lw_tbl.filter goodWord
theorem mg {w : Cond} (h : w ∈ lw_tbl) (hg : goodWord w = true) : w ∈ gtbl := List.mem_filter.mpr ⟨h, hg⟩
theorem gtbl_in {w : Cond} (h : w ∈ gtbl) : w ∈ lw_tbl := (List.mem_filter.mp h).1
theorem tblG (w : Cond) (h : w ∈ gtbl) : (w.onTables && w.keeps) = true ∨ ∃ ty, w = .arrayClass ty := good_of_word (List.mem_filter.mp h).2
set_option maxRecDepth 20000 in
theorem m_1_0 : (Jvm.Cond.initialized "DrawerGlovesLaw") ∈ gtbl := mg (mm_1 (List.mem_of_getElem? (i := 0) rfl)) rfl
set_option maxRecDepth 20000 in
theorem m_1_1 : (Jvm.Cond.initialized "DrawerGloves") ∈ gtbl := mg (mm_1 (List.mem_of_getElem? (i := 1) rfl)) rfl
set_option maxRecDepth 20000 in
theorem m_1_2 : (Jvm.Cond.initialized "DrawerGloves$Rows") ∈ gtbl := mg (mm_1 (List.mem_of_getElem? (i := 2) rfl)) rfl
set_option maxRecDepth 20000 in
theorem m_1_3 : (Jvm.Cond.initialized "java/lang/Math") ∈ gtbl := mg (mm_1 (List.mem_of_getElem? (i := 3) rfl)) rfl
set_option maxRecDepth 20000 in
theorem m_1_4 : (Jvm.Cond.initialized "DrawerGloves$Reading") ∈ gtbl := mg (mm_1 (List.mem_of_getElem? (i := 4) rfl)) rfl
set_option maxRecDepth 20000 in
theorem m_1_5 : (Jvm.Cond.initialized "DrawerGloves$Drawer") ∈ gtbl := mg (mm_1 (List.mem_of_getElem? (i := 5) rfl)) rfl
set_option maxRecDepth 20000 in
theorem m_1_6 : (Jvm.Cond.initialized "DrawerGloves$Deeds") ∈ gtbl := mg (mm_1 (List.mem_of_getElem? (i := 6) rfl)) rfl
set_option maxRecDepth 20000 in
theorem m_1_7 : (Jvm.Cond.initialized "DrawerGloves$Glove") ∈ gtbl := mg (mm_1 (List.mem_of_getElem? (i := 7) rfl)) rfl
set_option maxRecDepth 20000 in
theorem m_1_8 : (Jvm.Cond.initialized "DrawerGloves$Makings") ∈ gtbl := mg (mm_1 (List.mem_of_getElem? (i := 8) rfl)) rfl
set_option maxRecDepth 20000 in
theorem m_1_9 : (Jvm.Cond.initialized "DrawerGloves$Calendar") ∈ gtbl := mg (mm_1 (List.mem_of_getElem? (i := 9) rfl)) rfl
set_option maxRecDepth 20000 in
theorem m_1_10 : (Jvm.Cond.initialized "DrawerGloves$Guess") ∈ gtbl := mg (mm_1 (List.mem_of_getElem? (i := 10) rfl)) rfl
set_option maxRecDepth 20000 in
theorem m_1_11 : (Jvm.Cond.initialized "DrawerGloves$Rivals") ∈ gtbl := mg (mm_1 (List.mem_of_getElem? (i := 11) rfl)) rfl
set_option maxRecDepth 20000 in
theorem m_1_12 : (Jvm.Cond.initialized "DrawerGloves$Chances") ∈ gtbl := mg (mm_1 (List.mem_of_getElem? (i := 12) rfl)) rfl
set_option maxRecDepth 20000 in
theorem m_1_13 : (Jvm.Cond.initialized "DrawerGlovesModel") ∈ gtbl := mg (mm_1 (List.mem_of_getElem? (i := 13) rfl)) rfl
set_option maxRecDepth 20000 in
theorem m_1_14 : (Jvm.Cond.initialized "java/lang/System") ∈ gtbl := mg (mm_1 (List.mem_of_getElem? (i := 14) rfl)) rfl
set_option maxRecDepth 20000 in
theorem m_1_15 : (Jvm.Cond.initialized "java/lang/Integer") ∈ gtbl := mg (mm_1 (List.mem_of_getElem? (i := 15) rfl)) rfl
set_option maxRecDepth 20000 in
theorem m_1_16 : (Jvm.Cond.classLink "DrawerGlovesLaw" (7 : Nat) "DrawerGloves") ∈ gtbl := mg (mm_1 (List.mem_of_getElem? (i := 16) rfl)) rfl
set_option maxRecDepth 20000 in
theorem m_1_17 : (Jvm.Cond.instantiable "DrawerGloves" (13 : Nat)) ∈ gtbl := mg (mm_1 (List.mem_of_getElem? (i := 17) rfl)) rfl
set_option maxRecDepth 20000 in
theorem m_1_18 : (Jvm.Cond.methodLink "DrawerGlovesLaw" (9 : Nat) ({ cls := "DrawerGloves", name := "<init>", desc := "()V" } : Jvm.MethodName)) ∈ gtbl := mg (mm_1 (List.mem_of_getElem? (i := 18) rfl)) rfl
set_option maxRecDepth 20000 in
theorem m_1_19 : (Jvm.Cond.instanceMethod ({ cls := "DrawerGloves", name := "<init>", desc := "()V" } : Jvm.MethodName)) ∈ gtbl := mg (mm_1 (List.mem_of_getElem? (i := 19) rfl)) rfl
set_option maxRecDepth 20000 in
theorem m_1_20 : (Jvm.Cond.code ({ cls := "DrawerGloves", name := "<init>", desc := "()V" } : Jvm.MethodName) prog_1_method_1_code (2 : Nat) (Option.none : Option Jvm.ClassFile.FieldType)) ∈ gtbl := mg (mm_1 (List.mem_of_getElem? (i := 20) rfl)) rfl
set_option maxRecDepth 20000 in
theorem m_1_21 : (Jvm.Cond.methodLink "DrawerGloves" (1 : Nat) ({ cls := "java/lang/Object", name := "<init>", desc := "()V" } : Jvm.MethodName)) ∈ gtbl := mg (mm_1 (List.mem_of_getElem? (i := 21) rfl)) rfl
set_option maxRecDepth 20000 in
theorem m_1_22 : (Jvm.Cond.instanceMethod ({ cls := "java/lang/Object", name := "<init>", desc := "()V" } : Jvm.MethodName)) ∈ gtbl := mg (mm_1 (List.mem_of_getElem? (i := 22) rfl)) rfl
set_option maxRecDepth 20000 in
theorem m_1_23 : (Jvm.Cond.code ({ cls := "java/lang/Object", name := "<init>", desc := "()V" } : Jvm.MethodName) object_method_1_code (1 : Nat) (Option.none : Option Jvm.ClassFile.FieldType)) ∈ gtbl := mg (mm_1 (List.mem_of_getElem? (i := 23) rfl)) rfl
set_option maxRecDepth 20000 in
theorem m_1_24 : (Jvm.Cond.classLink "DrawerGloves" (7 : Nat) "DrawerGloves$Rows") ∈ gtbl := mg (mm_1 (List.mem_of_getElem? (i := 24) rfl)) rfl
set_option maxRecDepth 20000 in
theorem m_1_25 : (Jvm.Cond.instantiable "DrawerGloves$Rows" (4 : Nat)) ∈ gtbl := mg (mm_1 (List.mem_of_getElem? (i := 25) rfl)) rfl
set_option maxRecDepth 20000 in
theorem m_1_26 : (Jvm.Cond.methodLink "DrawerGloves" (11 : Nat) ({ cls := "DrawerGloves$Rows", name := "<init>", desc := "(III)V" } : Jvm.MethodName)) ∈ gtbl := mg (mm_1 (List.mem_of_getElem? (i := 26) rfl)) rfl
set_option maxRecDepth 20000 in
theorem m_1_27 : (Jvm.Cond.instanceMethod ({ cls := "DrawerGloves$Rows", name := "<init>", desc := "(III)V" } : Jvm.MethodName)) ∈ gtbl := mg (mm_1 (List.mem_of_getElem? (i := 27) rfl)) rfl
set_option maxRecDepth 20000 in
theorem m_1_28 : (Jvm.Cond.code ({ cls := "DrawerGloves$Rows", name := "<init>", desc := "(III)V" } : Jvm.MethodName) prog_11_method_1_code (6 : Nat) (Option.none : Option Jvm.ClassFile.FieldType)) ∈ gtbl := mg (mm_1 (List.mem_of_getElem? (i := 28) rfl)) rfl
set_option maxRecDepth 20000 in
theorem m_1_29 : (Jvm.Cond.methodLink "DrawerGloves$Rows" (3 : Nat) ({ cls := "java/lang/Object", name := "<init>", desc := "()V" } : Jvm.MethodName)) ∈ gtbl := mg (mm_1 (List.mem_of_getElem? (i := 29) rfl)) rfl
set_option maxRecDepth 20000 in
theorem m_1_30 : (Jvm.Cond.methodLink "DrawerGloves$Rows" (9 : Nat) ({ cls := "java/lang/Math", name := "max", desc := "(II)I" } : Jvm.MethodName)) ∈ gtbl := mg (mm_1 (List.mem_of_getElem? (i := 30) rfl)) rfl
set_option maxRecDepth 20000 in
theorem m_1_31 : (Jvm.Cond.static ({ cls := "java/lang/Math", name := "max", desc := "(II)I" } : Jvm.MethodName)) ∈ gtbl := mg (mm_1 (List.mem_of_getElem? (i := 31) rfl)) rfl
set_option maxRecDepth 20000 in
theorem m_1_32 : (Jvm.Cond.code ({ cls := "java/lang/Math", name := "max", desc := "(II)I" } : Jvm.MethodName) prog_15_method_65_code (2 : Nat) (Option.some Jvm.ClassFile.FieldType.int)) ∈ gtbl := mg (mm_1 (List.mem_of_getElem? (i := 32) rfl)) rfl
set_option maxRecDepth 20000 in
theorem m_1_33 : (Jvm.Cond.classLink "DrawerGloves$Rows" (24 : Nat) "[[I") ∈ gtbl := mg (mm_1 (List.mem_of_getElem? (i := 33) rfl)) rfl
set_option maxRecDepth 20000 in
theorem m_1_34 : (Jvm.Cond.arrayOver (Jvm.ClassFile.FieldType.array Jvm.ClassFile.FieldType.int)) ∈ lw_tbl := mm_1 (List.mem_of_getElem? (i := 34) rfl)
set_option maxRecDepth 20000 in
theorem m_1_35 : (Jvm.Cond.fieldLink "DrawerGloves$Rows" (26 : Nat) "DrawerGloves$Rows" "places" "[[I") ∈ gtbl := mg (mm_1 (List.mem_of_getElem? (i := 35) rfl)) rfl
set_option maxRecDepth 20000 in
theorem m_1_36 : (Jvm.Cond.fieldLink "DrawerGloves$Rows" (29 : Nat) "DrawerGloves$Rows" "sizes" "[I") ∈ gtbl := mg (mm_1 (List.mem_of_getElem? (i := 36) rfl)) rfl
set_option maxRecDepth 20000 in
theorem m_1_37 : (Jvm.Cond.fieldLink "DrawerGloves$Rows" (15 : Nat) "DrawerGloves$Rows" "mostPlaces" "I") ∈ gtbl := mg (mm_1 (List.mem_of_getElem? (i := 37) rfl)) rfl
set_option maxRecDepth 20000 in
theorem m_1_38 : (Jvm.Cond.fieldLink "DrawerGloves$Rows" (21 : Nat) "DrawerGloves$Rows" "filler" "I") ∈ gtbl := mg (mm_1 (List.mem_of_getElem? (i := 38) rfl)) rfl
set_option maxRecDepth 20000 in
theorem m_1_39 : (Jvm.Cond.laysFinal "DrawerGloves$Rows" "DrawerGloves$Rows" "places" "[[I") ∈ gtbl := mg (mm_1 (List.mem_of_getElem? (i := 39) rfl)) rfl
set_option maxRecDepth 20000 in
theorem m_1_41 : (Jvm.Cond.laysFinal "DrawerGloves$Rows" "DrawerGloves$Rows" "sizes" "[I") ∈ gtbl := mg (mm_1 (List.mem_of_getElem? (i := 41) rfl)) rfl
set_option maxRecDepth 20000 in
theorem m_1_43 : (Jvm.Cond.laysFinal "DrawerGloves$Rows" "DrawerGloves$Rows" "mostPlaces" "I") ∈ gtbl := mg (mm_1 (List.mem_of_getElem? (i := 43) rfl)) rfl
set_option maxRecDepth 20000 in
theorem m_1_45 : (Jvm.Cond.laysFinal "DrawerGloves$Rows" "DrawerGloves$Rows" "filler" "I") ∈ gtbl := mg (mm_1 (List.mem_of_getElem? (i := 45) rfl)) rfl
set_option maxRecDepth 20000 in
theorem m_1_48 : (Jvm.Cond.arrayClass Jvm.ClassFile.FieldType.int) ∈ gtbl := mg (mm_1 (List.mem_of_getElem? (i := 48) rfl)) rfl
set_option maxRecDepth 20000 in
theorem m_1_49 : (Jvm.Cond.classLink "DrawerGloves" (21 : Nat) "DrawerGloves$Reading") ∈ gtbl := mg (mm_1 (List.mem_of_getElem? (i := 49) rfl)) rfl
set_option maxRecDepth 20000 in
theorem m_1_50 : (Jvm.Cond.instantiable "DrawerGloves$Reading" (6 : Nat)) ∈ gtbl := mg (mm_1 (List.mem_of_getElem? (i := 50) rfl)) rfl
set_option maxRecDepth 20000 in
theorem m_1_51 : (Jvm.Cond.methodLink "DrawerGloves" (23 : Nat) ({ cls := "DrawerGloves$Reading", name := "<init>", desc := "()V" } : Jvm.MethodName)) ∈ gtbl := mg (mm_1 (List.mem_of_getElem? (i := 51) rfl)) rfl
set_option maxRecDepth 20000 in
theorem m_1_52 : (Jvm.Cond.instanceMethod ({ cls := "DrawerGloves$Reading", name := "<init>", desc := "()V" } : Jvm.MethodName)) ∈ gtbl := mg (mm_1 (List.mem_of_getElem? (i := 52) rfl)) rfl
set_option maxRecDepth 20000 in
theorem m_1_53 : (Jvm.Cond.code ({ cls := "DrawerGloves$Reading", name := "<init>", desc := "()V" } : Jvm.MethodName) prog_9_method_1_code (1 : Nat) (Option.none : Option Jvm.ClassFile.FieldType)) ∈ gtbl := mg (mm_1 (List.mem_of_getElem? (i := 53) rfl)) rfl
set_option maxRecDepth 20000 in
theorem m_1_54 : (Jvm.Cond.methodLink "DrawerGloves$Reading" (3 : Nat) ({ cls := "java/lang/Object", name := "<init>", desc := "()V" } : Jvm.MethodName)) ∈ gtbl := mg (mm_1 (List.mem_of_getElem? (i := 54) rfl)) rfl
set_option maxRecDepth 20000 in
theorem m_1_55 : (Jvm.Cond.fieldLink "DrawerGloves$Reading" (9 : Nat) "DrawerGloves$Reading" "kind" "[I") ∈ gtbl := mg (mm_1 (List.mem_of_getElem? (i := 55) rfl)) rfl
set_option maxRecDepth 20000 in
theorem m_1_56 : (Jvm.Cond.fieldLink "DrawerGloves$Drawer" (36 : Nat) "DrawerGloves$Reading" "kind" "[I") ∈ gtbl := mg (mm_1 (List.mem_of_getElem? (i := 56) rfl)) rfl
set_option maxRecDepth 20000 in
theorem m_1_57 : (Jvm.Cond.fieldLink "DrawerGloves$Reading" (15 : Nat) "DrawerGloves$Reading" "sort" "[I") ∈ gtbl := mg (mm_1 (List.mem_of_getElem? (i := 57) rfl)) rfl
set_option maxRecDepth 20000 in
theorem m_1_58 : (Jvm.Cond.fieldLink "DrawerGloves$Drawer" (42 : Nat) "DrawerGloves$Reading" "sort" "[I") ∈ gtbl := mg (mm_1 (List.mem_of_getElem? (i := 58) rfl)) rfl
set_option maxRecDepth 20000 in
theorem m_1_59 : (Jvm.Cond.fieldLink "DrawerGloves$Reading" (18 : Nat) "DrawerGloves$Reading" "hand" "[I") ∈ gtbl := mg (mm_1 (List.mem_of_getElem? (i := 59) rfl)) rfl
set_option maxRecDepth 20000 in
theorem m_1_60 : (Jvm.Cond.fieldLink "DrawerGloves$Drawer" (47 : Nat) "DrawerGloves$Reading" "hand" "[I") ∈ gtbl := mg (mm_1 (List.mem_of_getElem? (i := 60) rfl)) rfl
set_option maxRecDepth 20000 in
theorem m_1_61 : (Jvm.Cond.fieldLink "DrawerGloves$Reading" (21 : Nat) "DrawerGloves$Reading" "warm" "[I") ∈ gtbl := mg (mm_1 (List.mem_of_getElem? (i := 61) rfl)) rfl
set_option maxRecDepth 20000 in
theorem m_1_62 : (Jvm.Cond.fieldLink "DrawerGloves$Drawer" (52 : Nat) "DrawerGloves$Reading" "warm" "[I") ∈ gtbl := mg (mm_1 (List.mem_of_getElem? (i := 62) rfl)) rfl
set_option maxRecDepth 20000 in
theorem m_1_63 : (Jvm.Cond.fieldLink "DrawerGloves$Reading" (24 : Nat) "DrawerGloves$Reading" "size" "I") ∈ gtbl := mg (mm_1 (List.mem_of_getElem? (i := 63) rfl)) rfl
set_option maxRecDepth 20000 in
theorem m_1_64 : (Jvm.Cond.fieldLink "DrawerGloves$Drawer" (25 : Nat) "DrawerGloves$Reading" "size" "I") ∈ gtbl := mg (mm_1 (List.mem_of_getElem? (i := 64) rfl)) rfl
set_option maxRecDepth 20000 in
theorem m_1_65 : (Jvm.Cond.fieldLink "DrawerGloves$Drawer" (32 : Nat) "DrawerGloves$Reading" "room" "I") ∈ gtbl := mg (mm_1 (List.mem_of_getElem? (i := 65) rfl)) rfl
set_option maxRecDepth 20000 in
theorem m_1_66 : (Jvm.Cond.fieldLink "DrawerGloves$Reading" (46 : Nat) "DrawerGloves$Reading" "room" "I") ∈ gtbl := mg (mm_1 (List.mem_of_getElem? (i := 66) rfl)) rfl
set_option maxRecDepth 20000 in
theorem m_1_67 : (Jvm.Cond.laysFinal "DrawerGloves$Reading" "DrawerGloves$Reading" "kind" "[I") ∈ gtbl := mg (mm_1 (List.mem_of_getElem? (i := 67) rfl)) rfl
set_option maxRecDepth 20000 in
theorem m_1_69 : (Jvm.Cond.laysFinal "DrawerGloves$Reading" "DrawerGloves$Reading" "sort" "[I") ∈ gtbl := mg (mm_1 (List.mem_of_getElem? (i := 69) rfl)) rfl
set_option maxRecDepth 20000 in
theorem m_1_71 : (Jvm.Cond.laysFinal "DrawerGloves$Reading" "DrawerGloves$Reading" "hand" "[I") ∈ gtbl := mg (mm_1 (List.mem_of_getElem? (i := 71) rfl)) rfl
set_option maxRecDepth 20000 in
theorem m_1_73 : (Jvm.Cond.laysFinal "DrawerGloves$Reading" "DrawerGloves$Reading" "warm" "[I") ∈ gtbl := mg (mm_1 (List.mem_of_getElem? (i := 73) rfl)) rfl
set_option maxRecDepth 20000 in
theorem m_1_75 : (Jvm.Cond.lays "DrawerGloves$Reading" "DrawerGloves$Reading" "size" "I") ∈ gtbl := mg (mm_1 (List.mem_of_getElem? (i := 75) rfl)) rfl
set_option maxRecDepth 20000 in
theorem m_1_77 : (Jvm.Cond.lays "DrawerGloves$Reading" "DrawerGloves$Reading" "room" "I") ∈ gtbl := mg (mm_1 (List.mem_of_getElem? (i := 77) rfl)) rfl
set_option maxRecDepth 20000 in
theorem m_1_80 : (Jvm.Cond.classLink "DrawerGloves" (28 : Nat) "DrawerGloves$Drawer") ∈ gtbl := mg (mm_1 (List.mem_of_getElem? (i := 80) rfl)) rfl
set_option maxRecDepth 20000 in
theorem m_1_81 : (Jvm.Cond.instantiable "DrawerGloves$Drawer" (4 : Nat)) ∈ gtbl := mg (mm_1 (List.mem_of_getElem? (i := 81) rfl)) rfl
set_option maxRecDepth 20000 in
theorem m_1_82 : (Jvm.Cond.methodLink "DrawerGloves" (30 : Nat) ({ cls := "DrawerGloves$Drawer", name := "<init>", desc := "()V" } : Jvm.MethodName)) ∈ gtbl := mg (mm_1 (List.mem_of_getElem? (i := 82) rfl)) rfl
set_option maxRecDepth 20000 in
theorem m_1_83 : (Jvm.Cond.instanceMethod ({ cls := "DrawerGloves$Drawer", name := "<init>", desc := "()V" } : Jvm.MethodName)) ∈ gtbl := mg (mm_1 (List.mem_of_getElem? (i := 83) rfl)) rfl
set_option maxRecDepth 20000 in
theorem m_1_84 : (Jvm.Cond.code ({ cls := "DrawerGloves$Drawer", name := "<init>", desc := "()V" } : Jvm.MethodName) prog_5_method_1_code (2 : Nat) (Option.none : Option Jvm.ClassFile.FieldType)) ∈ gtbl := mg (mm_1 (List.mem_of_getElem? (i := 84) rfl)) rfl
set_option maxRecDepth 20000 in
theorem m_1_85 : (Jvm.Cond.methodLink "DrawerGloves$Drawer" (3 : Nat) ({ cls := "java/lang/Object", name := "<init>", desc := "()V" } : Jvm.MethodName)) ∈ gtbl := mg (mm_1 (List.mem_of_getElem? (i := 85) rfl)) rfl
set_option maxRecDepth 20000 in
theorem m_1_86 : (Jvm.Cond.classLink "DrawerGloves$Drawer" (9 : Nat) "DrawerGloves$Glove") ∈ gtbl := mg (mm_1 (List.mem_of_getElem? (i := 86) rfl)) rfl
set_option maxRecDepth 20000 in
theorem m_1_87 : (Jvm.Cond.arrayOver (Jvm.ClassFile.FieldType.object "DrawerGloves$Glove")) ∈ lw_tbl := mm_1 (List.mem_of_getElem? (i := 87) rfl)
set_option maxRecDepth 20000 in
theorem m_1_88 : (Jvm.Cond.classLink "DrawerGloves$Drawer" (17 : Nat) "DrawerGloves$Deeds") ∈ gtbl := mg (mm_1 (List.mem_of_getElem? (i := 88) rfl)) rfl
set_option maxRecDepth 20000 in
theorem m_1_89 : (Jvm.Cond.instantiable "DrawerGloves$Deeds" (2 : Nat)) ∈ gtbl := mg (mm_1 (List.mem_of_getElem? (i := 89) rfl)) rfl
set_option maxRecDepth 20000 in
theorem m_1_90 : (Jvm.Cond.methodLink "DrawerGloves$Drawer" (19 : Nat) ({ cls := "DrawerGloves$Deeds", name := "<init>", desc := "()V" } : Jvm.MethodName)) ∈ gtbl := mg (mm_1 (List.mem_of_getElem? (i := 90) rfl)) rfl
set_option maxRecDepth 20000 in
theorem m_1_91 : (Jvm.Cond.instanceMethod ({ cls := "DrawerGloves$Deeds", name := "<init>", desc := "()V" } : Jvm.MethodName)) ∈ gtbl := mg (mm_1 (List.mem_of_getElem? (i := 91) rfl)) rfl
set_option maxRecDepth 20000 in
theorem m_1_92 : (Jvm.Cond.code ({ cls := "DrawerGloves$Deeds", name := "<init>", desc := "()V" } : Jvm.MethodName) prog_4_method_1_code (1 : Nat) (Option.none : Option Jvm.ClassFile.FieldType)) ∈ gtbl := mg (mm_1 (List.mem_of_getElem? (i := 92) rfl)) rfl
set_option maxRecDepth 20000 in
theorem m_1_93 : (Jvm.Cond.methodLink "DrawerGloves$Deeds" (3 : Nat) ({ cls := "java/lang/Object", name := "<init>", desc := "()V" } : Jvm.MethodName)) ∈ gtbl := mg (mm_1 (List.mem_of_getElem? (i := 93) rfl)) rfl
set_option maxRecDepth 20000 in
theorem m_1_94 : (Jvm.Cond.fieldLink "DrawerGloves$Deeds" (9 : Nat) "DrawerGloves$Deeds" "codes" "[I") ∈ gtbl := mg (mm_1 (List.mem_of_getElem? (i := 94) rfl)) rfl
set_option maxRecDepth 20000 in
theorem m_1_95 : (Jvm.Cond.fieldLink "DrawerGloves$Drawer" (114 : Nat) "DrawerGloves$Deeds" "codes" "[I") ∈ gtbl := mg (mm_1 (List.mem_of_getElem? (i := 95) rfl)) rfl
set_option maxRecDepth 20000 in
theorem m_1_96 : (Jvm.Cond.fieldLink "DrawerGloves" (42 : Nat) "DrawerGloves$Deeds" "size" "I") ∈ gtbl := mg (mm_1 (List.mem_of_getElem? (i := 96) rfl)) rfl
set_option maxRecDepth 20000 in
theorem m_1_97 : (Jvm.Cond.fieldLink "DrawerGloves$Deeds" (15 : Nat) "DrawerGloves$Deeds" "size" "I") ∈ gtbl := mg (mm_1 (List.mem_of_getElem? (i := 97) rfl)) rfl
set_option maxRecDepth 20000 in
theorem m_1_98 : (Jvm.Cond.fieldLink "DrawerGloves$Drawer" (57 : Nat) "DrawerGloves$Deeds" "size" "I") ∈ gtbl := mg (mm_1 (List.mem_of_getElem? (i := 98) rfl)) rfl
set_option maxRecDepth 20000 in
theorem m_1_99 : (Jvm.Cond.laysFinal "DrawerGloves$Deeds" "DrawerGloves$Deeds" "codes" "[I") ∈ gtbl := mg (mm_1 (List.mem_of_getElem? (i := 99) rfl)) rfl
set_option maxRecDepth 20000 in
theorem m_1_101 : (Jvm.Cond.lays "DrawerGloves$Deeds" "DrawerGloves$Deeds" "size" "I") ∈ gtbl := mg (mm_1 (List.mem_of_getElem? (i := 101) rfl)) rfl
set_option maxRecDepth 20000 in
theorem m_1_104 : (Jvm.Cond.instantiable "DrawerGloves$Glove" (6 : Nat)) ∈ gtbl := mg (mm_1 (List.mem_of_getElem? (i := 104) rfl)) rfl
set_option maxRecDepth 20000 in
theorem m_1_105 : (Jvm.Cond.methodLink "DrawerGloves$Drawer" (24 : Nat) ({ cls := "DrawerGloves$Glove", name := "<init>", desc := "()V" } : Jvm.MethodName)) ∈ gtbl := mg (mm_1 (List.mem_of_getElem? (i := 105) rfl)) rfl
set_option maxRecDepth 20000 in
theorem m_1_106 : (Jvm.Cond.instanceMethod ({ cls := "DrawerGloves$Glove", name := "<init>", desc := "()V" } : Jvm.MethodName)) ∈ gtbl := mg (mm_1 (List.mem_of_getElem? (i := 106) rfl)) rfl
set_option maxRecDepth 20000 in
theorem m_1_107 : (Jvm.Cond.code ({ cls := "DrawerGloves$Glove", name := "<init>", desc := "()V" } : Jvm.MethodName) prog_6_method_1_code (1 : Nat) (Option.none : Option Jvm.ClassFile.FieldType)) ∈ gtbl := mg (mm_1 (List.mem_of_getElem? (i := 107) rfl)) rfl
set_option maxRecDepth 20000 in
theorem m_1_108 : (Jvm.Cond.methodLink "DrawerGloves$Glove" (3 : Nat) ({ cls := "java/lang/Object", name := "<init>", desc := "()V" } : Jvm.MethodName)) ∈ gtbl := mg (mm_1 (List.mem_of_getElem? (i := 108) rfl)) rfl
set_option maxRecDepth 20000 in
theorem m_1_109 : (Jvm.Cond.fieldLink "DrawerGloves$Glove" (9 : Nat) "DrawerGloves$Glove" "kind" "I") ∈ gtbl := mg (mm_1 (List.mem_of_getElem? (i := 109) rfl)) rfl
set_option maxRecDepth 20000 in
theorem m_1_110 : (Jvm.Cond.fieldLink "DrawerGloves$Drawer" (40 : Nat) "DrawerGloves$Glove" "kind" "I") ∈ gtbl := mg (mm_1 (List.mem_of_getElem? (i := 110) rfl)) rfl
set_option maxRecDepth 20000 in
theorem m_1_111 : (Jvm.Cond.fieldLink "DrawerGloves$Chances" (50 : Nat) "DrawerGloves$Glove" "kind" "I") ∈ gtbl := mg (mm_1 (List.mem_of_getElem? (i := 111) rfl)) rfl
set_option maxRecDepth 20000 in
theorem m_1_112 : (Jvm.Cond.fieldLink "DrawerGloves$Guess" (61 : Nat) "DrawerGloves$Glove" "kind" "I") ∈ gtbl := mg (mm_1 (List.mem_of_getElem? (i := 112) rfl)) rfl
set_option maxRecDepth 20000 in
theorem m_1_113 : (Jvm.Cond.fieldLink "DrawerGloves$Makings" (83 : Nat) "DrawerGloves$Glove" "kind" "I") ∈ gtbl := mg (mm_1 (List.mem_of_getElem? (i := 113) rfl)) rfl
set_option maxRecDepth 20000 in
theorem m_1_114 : (Jvm.Cond.fieldLink "DrawerGloves$Glove" (15 : Nat) "DrawerGloves$Glove" "sort" "I") ∈ gtbl := mg (mm_1 (List.mem_of_getElem? (i := 114) rfl)) rfl
set_option maxRecDepth 20000 in
theorem m_1_115 : (Jvm.Cond.fieldLink "DrawerGloves$Drawer" (45 : Nat) "DrawerGloves$Glove" "sort" "I") ∈ gtbl := mg (mm_1 (List.mem_of_getElem? (i := 115) rfl)) rfl
set_option maxRecDepth 20000 in
theorem m_1_116 : (Jvm.Cond.fieldLink "DrawerGloves$Guess" (50 : Nat) "DrawerGloves$Glove" "sort" "I") ∈ gtbl := mg (mm_1 (List.mem_of_getElem? (i := 116) rfl)) rfl
set_option maxRecDepth 20000 in
theorem m_1_117 : (Jvm.Cond.fieldLink "DrawerGloves$Glove" (18 : Nat) "DrawerGloves$Glove" "hand" "I") ∈ gtbl := mg (mm_1 (List.mem_of_getElem? (i := 117) rfl)) rfl
set_option maxRecDepth 20000 in
theorem m_1_118 : (Jvm.Cond.fieldLink "DrawerGloves$Drawer" (50 : Nat) "DrawerGloves$Glove" "hand" "I") ∈ gtbl := mg (mm_1 (List.mem_of_getElem? (i := 118) rfl)) rfl
set_option maxRecDepth 20000 in
theorem m_1_119 : (Jvm.Cond.fieldLink "DrawerGloves$Chances" (65 : Nat) "DrawerGloves$Glove" "hand" "I") ∈ gtbl := mg (mm_1 (List.mem_of_getElem? (i := 119) rfl)) rfl
set_option maxRecDepth 20000 in
theorem m_1_120 : (Jvm.Cond.fieldLink "DrawerGloves$Guess" (58 : Nat) "DrawerGloves$Glove" "hand" "I") ∈ gtbl := mg (mm_1 (List.mem_of_getElem? (i := 120) rfl)) rfl
set_option maxRecDepth 20000 in
theorem m_1_121 : (Jvm.Cond.fieldLink "DrawerGloves$Glove" (21 : Nat) "DrawerGloves$Glove" "warm" "I") ∈ gtbl := mg (mm_1 (List.mem_of_getElem? (i := 121) rfl)) rfl
set_option maxRecDepth 20000 in
theorem m_1_122 : (Jvm.Cond.fieldLink "DrawerGloves$Drawer" (55 : Nat) "DrawerGloves$Glove" "warm" "I") ∈ gtbl := mg (mm_1 (List.mem_of_getElem? (i := 122) rfl)) rfl
set_option maxRecDepth 20000 in
theorem m_1_123 : (Jvm.Cond.fieldLink "DrawerGloves$Glove" (24 : Nat) "DrawerGloves$Glove" "wear" "I") ∈ gtbl := mg (mm_1 (List.mem_of_getElem? (i := 123) rfl)) rfl
set_option maxRecDepth 20000 in
theorem m_1_124 : (Jvm.Cond.fieldLink "DrawerGloves$Calendar" (81 : Nat) "DrawerGloves$Glove" "wear" "I") ∈ gtbl := mg (mm_1 (List.mem_of_getElem? (i := 124) rfl)) rfl
set_option maxRecDepth 20000 in
theorem m_1_125 : (Jvm.Cond.fieldLink "DrawerGloves$Drawer" (84 : Nat) "DrawerGloves$Glove" "wear" "I") ∈ gtbl := mg (mm_1 (List.mem_of_getElem? (i := 125) rfl)) rfl
set_option maxRecDepth 20000 in
theorem m_1_126 : (Jvm.Cond.fieldLink "DrawerGloves" (185 : Nat) "DrawerGloves$Glove" "wear" "I") ∈ gtbl := mg (mm_1 (List.mem_of_getElem? (i := 126) rfl)) rfl
set_option maxRecDepth 20000 in
theorem m_1_127 : (Jvm.Cond.fieldLink "DrawerGloves$Glove" (27 : Nat) "DrawerGloves$Glove" "where" "I") ∈ gtbl := mg (mm_1 (List.mem_of_getElem? (i := 127) rfl)) rfl
set_option maxRecDepth 20000 in
theorem m_1_128 : (Jvm.Cond.fieldLink "DrawerGloves$Drawer" (65 : Nat) "DrawerGloves$Glove" "where" "I") ∈ gtbl := mg (mm_1 (List.mem_of_getElem? (i := 128) rfl)) rfl
set_option maxRecDepth 20000 in
theorem m_1_129 : (Jvm.Cond.fieldLink "DrawerGloves" (220 : Nat) "DrawerGloves$Glove" "where" "I") ∈ gtbl := mg (mm_1 (List.mem_of_getElem? (i := 129) rfl)) rfl
set_option maxRecDepth 20000 in
theorem m_1_130 : (Jvm.Cond.lays "DrawerGloves$Glove" "DrawerGloves$Glove" "kind" "I") ∈ gtbl := mg (mm_1 (List.mem_of_getElem? (i := 130) rfl)) rfl
set_option maxRecDepth 20000 in
theorem m_1_132 : (Jvm.Cond.lays "DrawerGloves$Glove" "DrawerGloves$Glove" "sort" "I") ∈ gtbl := mg (mm_1 (List.mem_of_getElem? (i := 132) rfl)) rfl
set_option maxRecDepth 20000 in
theorem m_1_134 : (Jvm.Cond.lays "DrawerGloves$Glove" "DrawerGloves$Glove" "hand" "I") ∈ gtbl := mg (mm_1 (List.mem_of_getElem? (i := 134) rfl)) rfl
set_option maxRecDepth 20000 in
theorem m_1_136 : (Jvm.Cond.lays "DrawerGloves$Glove" "DrawerGloves$Glove" "warm" "I") ∈ gtbl := mg (mm_1 (List.mem_of_getElem? (i := 136) rfl)) rfl
set_option maxRecDepth 20000 in
theorem m_1_138 : (Jvm.Cond.lays "DrawerGloves$Glove" "DrawerGloves$Glove" "wear" "I") ∈ gtbl := mg (mm_1 (List.mem_of_getElem? (i := 138) rfl)) rfl
set_option maxRecDepth 20000 in
theorem m_1_140 : (Jvm.Cond.lays "DrawerGloves$Glove" "DrawerGloves$Glove" "where" "I") ∈ gtbl := mg (mm_1 (List.mem_of_getElem? (i := 140) rfl)) rfl
set_option maxRecDepth 20000 in
theorem m_1_143 : (Jvm.Cond.fieldLink "DrawerGloves$Drawer" (11 : Nat) "DrawerGloves$Drawer" "gloves" "[LDrawerGloves$Glove;") ∈ gtbl := mg (mm_1 (List.mem_of_getElem? (i := 143) rfl)) rfl
set_option maxRecDepth 20000 in
theorem m_1_144 : (Jvm.Cond.fieldLink "DrawerGloves$Makings" (30 : Nat) "DrawerGloves$Drawer" "gloves" "[LDrawerGloves$Glove;") ∈ gtbl := mg (mm_1 (List.mem_of_getElem? (i := 144) rfl)) rfl
set_option maxRecDepth 20000 in
theorem m_1_145 : (Jvm.Cond.fieldLink "DrawerGloves$Chances" (32 : Nat) "DrawerGloves$Drawer" "gloves" "[LDrawerGloves$Glove;") ∈ gtbl := mg (mm_1 (List.mem_of_getElem? (i := 145) rfl)) rfl
set_option maxRecDepth 20000 in
theorem m_1_146 : (Jvm.Cond.fieldLink "DrawerGloves$Calendar" (54 : Nat) "DrawerGloves$Drawer" "gloves" "[LDrawerGloves$Glove;") ∈ gtbl := mg (mm_1 (List.mem_of_getElem? (i := 146) rfl)) rfl
set_option maxRecDepth 20000 in
theorem m_1_147 : (Jvm.Cond.fieldLink "DrawerGloves$Guess" (38 : Nat) "DrawerGloves$Drawer" "gloves" "[LDrawerGloves$Glove;") ∈ gtbl := mg (mm_1 (List.mem_of_getElem? (i := 147) rfl)) rfl
set_option maxRecDepth 20000 in
theorem m_1_148 : (Jvm.Cond.fieldLink "DrawerGloves" (160 : Nat) "DrawerGloves$Drawer" "gloves" "[LDrawerGloves$Glove;") ∈ gtbl := mg (mm_1 (List.mem_of_getElem? (i := 148) rfl)) rfl
set_option maxRecDepth 20000 in
theorem m_1_149 : (Jvm.Cond.fieldLink "DrawerGloves$Drawer" (20 : Nat) "DrawerGloves$Drawer" "deeds" "LDrawerGloves$Deeds;") ∈ gtbl := mg (mm_1 (List.mem_of_getElem? (i := 149) rfl)) rfl
set_option maxRecDepth 20000 in
theorem m_1_150 : (Jvm.Cond.fieldLink "DrawerGloves" (204 : Nat) "DrawerGloves$Drawer" "deeds" "LDrawerGloves$Deeds;") ∈ gtbl := mg (mm_1 (List.mem_of_getElem? (i := 150) rfl)) rfl
set_option maxRecDepth 20000 in
theorem m_1_151 : (Jvm.Cond.fieldLink "DrawerGloves$Makings" (24 : Nat) "DrawerGloves$Drawer" "size" "I") ∈ gtbl := mg (mm_1 (List.mem_of_getElem? (i := 151) rfl)) rfl
set_option maxRecDepth 20000 in
theorem m_1_152 : (Jvm.Cond.fieldLink "DrawerGloves$Drawer" (31 : Nat) "DrawerGloves$Drawer" "size" "I") ∈ gtbl := mg (mm_1 (List.mem_of_getElem? (i := 152) rfl)) rfl
set_option maxRecDepth 20000 in
theorem m_1_153 : (Jvm.Cond.fieldLink "DrawerGloves$Chances" (28 : Nat) "DrawerGloves$Drawer" "size" "I") ∈ gtbl := mg (mm_1 (List.mem_of_getElem? (i := 153) rfl)) rfl
set_option maxRecDepth 20000 in
theorem m_1_154 : (Jvm.Cond.fieldLink "DrawerGloves$Calendar" (53 : Nat) "DrawerGloves$Drawer" "size" "I") ∈ gtbl := mg (mm_1 (List.mem_of_getElem? (i := 154) rfl)) rfl
set_option maxRecDepth 20000 in
theorem m_1_155 : (Jvm.Cond.fieldLink "DrawerGloves$Guess" (64 : Nat) "DrawerGloves$Drawer" "size" "I") ∈ gtbl := mg (mm_1 (List.mem_of_getElem? (i := 155) rfl)) rfl
set_option maxRecDepth 20000 in
theorem m_1_156 : (Jvm.Cond.fieldLink "DrawerGloves" (156 : Nat) "DrawerGloves$Drawer" "size" "I") ∈ gtbl := mg (mm_1 (List.mem_of_getElem? (i := 156) rfl)) rfl
set_option maxRecDepth 20000 in
theorem m_1_157 : (Jvm.Cond.fieldLink "DrawerGloves$Drawer" (35 : Nat) "DrawerGloves$Drawer" "room" "I") ∈ gtbl := mg (mm_1 (List.mem_of_getElem? (i := 157) rfl)) rfl
set_option maxRecDepth 20000 in
theorem m_1_158 : (Jvm.Cond.fieldLink "DrawerGloves$Makings" (72 : Nat) "DrawerGloves$Drawer" "room" "I") ∈ gtbl := mg (mm_1 (List.mem_of_getElem? (i := 158) rfl)) rfl
set_option maxRecDepth 20000 in
theorem m_1_159 : (Jvm.Cond.fieldLink "DrawerGloves" (322 : Nat) "DrawerGloves$Drawer" "room" "I") ∈ gtbl := mg (mm_1 (List.mem_of_getElem? (i := 159) rfl)) rfl
set_option maxRecDepth 20000 in
theorem m_1_160 : (Jvm.Cond.laysFinal "DrawerGloves$Drawer" "DrawerGloves$Drawer" "gloves" "[LDrawerGloves$Glove;") ∈ gtbl := mg (mm_1 (List.mem_of_getElem? (i := 160) rfl)) rfl
set_option maxRecDepth 20000 in
theorem m_1_162 : (Jvm.Cond.laysFinal "DrawerGloves$Drawer" "DrawerGloves$Drawer" "deeds" "LDrawerGloves$Deeds;") ∈ gtbl := mg (mm_1 (List.mem_of_getElem? (i := 162) rfl)) rfl
set_option maxRecDepth 20000 in
theorem m_1_164 : (Jvm.Cond.lays "DrawerGloves$Drawer" "DrawerGloves$Drawer" "size" "I") ∈ gtbl := mg (mm_1 (List.mem_of_getElem? (i := 164) rfl)) rfl
set_option maxRecDepth 20000 in
theorem m_1_166 : (Jvm.Cond.lays "DrawerGloves$Drawer" "DrawerGloves$Drawer" "room" "I") ∈ gtbl := mg (mm_1 (List.mem_of_getElem? (i := 166) rfl)) rfl
set_option maxRecDepth 20000 in
theorem m_1_169 : (Jvm.Cond.classLink "DrawerGloves" (35 : Nat) "DrawerGloves$Deeds") ∈ gtbl := mg (mm_1 (List.mem_of_getElem? (i := 169) rfl)) rfl
set_option maxRecDepth 20000 in
theorem m_1_170 : (Jvm.Cond.arrayOver (Jvm.ClassFile.FieldType.object "DrawerGloves$Deeds")) ∈ lw_tbl := mm_1 (List.mem_of_getElem? (i := 170) rfl)
set_option maxRecDepth 20000 in
theorem m_1_171 : (Jvm.Cond.methodLink "DrawerGloves" (41 : Nat) ({ cls := "DrawerGloves$Deeds", name := "<init>", desc := "()V" } : Jvm.MethodName)) ∈ gtbl := mg (mm_1 (List.mem_of_getElem? (i := 171) rfl)) rfl
set_option maxRecDepth 20000 in
theorem m_1_172 : (Jvm.Cond.classLink "DrawerGloves" (46 : Nat) "DrawerGloves$Makings") ∈ gtbl := mg (mm_1 (List.mem_of_getElem? (i := 172) rfl)) rfl
set_option maxRecDepth 20000 in
theorem m_1_173 : (Jvm.Cond.instantiable "DrawerGloves$Makings" (4 : Nat)) ∈ gtbl := mg (mm_1 (List.mem_of_getElem? (i := 173) rfl)) rfl
set_option maxRecDepth 20000 in
theorem m_1_174 : (Jvm.Cond.methodLink "DrawerGloves" (48 : Nat) ({ cls := "DrawerGloves$Makings", name := "<init>", desc := "()V" } : Jvm.MethodName)) ∈ gtbl := mg (mm_1 (List.mem_of_getElem? (i := 174) rfl)) rfl
set_option maxRecDepth 20000 in
theorem m_1_175 : (Jvm.Cond.instanceMethod ({ cls := "DrawerGloves$Makings", name := "<init>", desc := "()V" } : Jvm.MethodName)) ∈ gtbl := mg (mm_1 (List.mem_of_getElem? (i := 175) rfl)) rfl
set_option maxRecDepth 20000 in
theorem m_1_176 : (Jvm.Cond.code ({ cls := "DrawerGloves$Makings", name := "<init>", desc := "()V" } : Jvm.MethodName) prog_8_method_1_code (1 : Nat) (Option.none : Option Jvm.ClassFile.FieldType)) ∈ gtbl := mg (mm_1 (List.mem_of_getElem? (i := 176) rfl)) rfl
set_option maxRecDepth 20000 in
theorem m_1_177 : (Jvm.Cond.methodLink "DrawerGloves$Makings" (3 : Nat) ({ cls := "java/lang/Object", name := "<init>", desc := "()V" } : Jvm.MethodName)) ∈ gtbl := mg (mm_1 (List.mem_of_getElem? (i := 177) rfl)) rfl
set_option maxRecDepth 20000 in
theorem m_1_178 : (Jvm.Cond.fieldLink "DrawerGloves$Makings" (9 : Nat) "DrawerGloves$Makings" "worth" "[I") ∈ gtbl := mg (mm_1 (List.mem_of_getElem? (i := 178) rfl)) rfl
set_option maxRecDepth 20000 in
theorem m_1_179 : (Jvm.Cond.fieldLink "DrawerGloves$Makings" (15 : Nat) "DrawerGloves$Makings" "best" "[I") ∈ gtbl := mg (mm_1 (List.mem_of_getElem? (i := 179) rfl)) rfl
set_option maxRecDepth 20000 in
theorem m_1_180 : (Jvm.Cond.fieldLink "DrawerGloves$Rivals" (23 : Nat) "DrawerGloves$Makings" "best" "[I") ∈ gtbl := mg (mm_1 (List.mem_of_getElem? (i := 180) rfl)) rfl
set_option maxRecDepth 20000 in
theorem m_1_181 : (Jvm.Cond.fieldLink "DrawerGloves" (244 : Nat) "DrawerGloves$Makings" "best" "[I") ∈ gtbl := mg (mm_1 (List.mem_of_getElem? (i := 181) rfl)) rfl
set_option maxRecDepth 20000 in
theorem m_1_182 : (Jvm.Cond.fieldLink "DrawerGloves$Makings" (18 : Nat) "DrawerGloves$Makings" "most" "[I") ∈ gtbl := mg (mm_1 (List.mem_of_getElem? (i := 182) rfl)) rfl
set_option maxRecDepth 20000 in
theorem m_1_183 : (Jvm.Cond.fieldLink "DrawerGloves" (241 : Nat) "DrawerGloves$Makings" "most" "[I") ∈ gtbl := mg (mm_1 (List.mem_of_getElem? (i := 183) rfl)) rfl
set_option maxRecDepth 20000 in
theorem m_1_184 : (Jvm.Cond.fieldLink "DrawerGloves$Makings" (21 : Nat) "DrawerGloves$Makings" "enough" "[I") ∈ gtbl := mg (mm_1 (List.mem_of_getElem? (i := 184) rfl)) rfl
set_option maxRecDepth 20000 in
theorem m_1_185 : (Jvm.Cond.fieldLink "DrawerGloves" (298 : Nat) "DrawerGloves$Makings" "enough" "[I") ∈ gtbl := mg (mm_1 (List.mem_of_getElem? (i := 185) rfl)) rfl
set_option maxRecDepth 20000 in
theorem m_1_186 : (Jvm.Cond.laysFinal "DrawerGloves$Makings" "DrawerGloves$Makings" "worth" "[I") ∈ gtbl := mg (mm_1 (List.mem_of_getElem? (i := 186) rfl)) rfl
set_option maxRecDepth 20000 in
theorem m_1_188 : (Jvm.Cond.laysFinal "DrawerGloves$Makings" "DrawerGloves$Makings" "best" "[I") ∈ gtbl := mg (mm_1 (List.mem_of_getElem? (i := 188) rfl)) rfl
set_option maxRecDepth 20000 in
theorem m_1_190 : (Jvm.Cond.laysFinal "DrawerGloves$Makings" "DrawerGloves$Makings" "most" "[I") ∈ gtbl := mg (mm_1 (List.mem_of_getElem? (i := 190) rfl)) rfl
set_option maxRecDepth 20000 in
theorem m_1_192 : (Jvm.Cond.laysFinal "DrawerGloves$Makings" "DrawerGloves$Makings" "enough" "[I") ∈ gtbl := mg (mm_1 (List.mem_of_getElem? (i := 192) rfl)) rfl
set_option maxRecDepth 20000 in
theorem m_1_195 : (Jvm.Cond.classLink "DrawerGloves" (53 : Nat) "DrawerGloves$Calendar") ∈ gtbl := mg (mm_1 (List.mem_of_getElem? (i := 195) rfl)) rfl
set_option maxRecDepth 20000 in
theorem m_1_196 : (Jvm.Cond.instantiable "DrawerGloves$Calendar" (7 : Nat)) ∈ gtbl := mg (mm_1 (List.mem_of_getElem? (i := 196) rfl)) rfl
set_option maxRecDepth 20000 in
theorem m_1_197 : (Jvm.Cond.methodLink "DrawerGloves" (55 : Nat) ({ cls := "DrawerGloves$Calendar", name := "<init>", desc := "()V" } : Jvm.MethodName)) ∈ gtbl := mg (mm_1 (List.mem_of_getElem? (i := 197) rfl)) rfl
set_option maxRecDepth 20000 in
theorem m_1_198 : (Jvm.Cond.instanceMethod ({ cls := "DrawerGloves$Calendar", name := "<init>", desc := "()V" } : Jvm.MethodName)) ∈ gtbl := mg (mm_1 (List.mem_of_getElem? (i := 198) rfl)) rfl
set_option maxRecDepth 20000 in
theorem m_1_199 : (Jvm.Cond.code ({ cls := "DrawerGloves$Calendar", name := "<init>", desc := "()V" } : Jvm.MethodName) prog_2_method_1_code (1 : Nat) (Option.none : Option Jvm.ClassFile.FieldType)) ∈ gtbl := mg (mm_1 (List.mem_of_getElem? (i := 199) rfl)) rfl
set_option maxRecDepth 20000 in
theorem m_1_200 : (Jvm.Cond.methodLink "DrawerGloves$Calendar" (3 : Nat) ({ cls := "java/lang/Object", name := "<init>", desc := "()V" } : Jvm.MethodName)) ∈ gtbl := mg (mm_1 (List.mem_of_getElem? (i := 200) rfl)) rfl
set_option maxRecDepth 20000 in
theorem m_1_201 : (Jvm.Cond.classLink "DrawerGloves$Calendar" (9 : Nat) "DrawerGloves$Drawer") ∈ gtbl := mg (mm_1 (List.mem_of_getElem? (i := 201) rfl)) rfl
set_option maxRecDepth 20000 in
theorem m_1_202 : (Jvm.Cond.methodLink "DrawerGloves$Calendar" (11 : Nat) ({ cls := "DrawerGloves$Drawer", name := "<init>", desc := "()V" } : Jvm.MethodName)) ∈ gtbl := mg (mm_1 (List.mem_of_getElem? (i := 202) rfl)) rfl
set_option maxRecDepth 20000 in
theorem m_1_203 : (Jvm.Cond.fieldLink "DrawerGloves$Calendar" (12 : Nat) "DrawerGloves$Calendar" "worn" "LDrawerGloves$Drawer;") ∈ gtbl := mg (mm_1 (List.mem_of_getElem? (i := 203) rfl)) rfl
set_option maxRecDepth 20000 in
theorem m_1_204 : (Jvm.Cond.fieldLink "DrawerGloves$Calendar" (18 : Nat) "DrawerGloves$Calendar" "codes" "[I") ∈ gtbl := mg (mm_1 (List.mem_of_getElem? (i := 204) rfl)) rfl
set_option maxRecDepth 20000 in
theorem m_1_205 : (Jvm.Cond.fieldLink "DrawerGloves$Calendar" (22 : Nat) "DrawerGloves$Calendar" "way" "[I") ∈ gtbl := mg (mm_1 (List.mem_of_getElem? (i := 205) rfl)) rfl
set_option maxRecDepth 20000 in
theorem m_1_206 : (Jvm.Cond.fieldLink "DrawerGloves$Calendar" (25 : Nat) "DrawerGloves$Calendar" "bestWay" "[I") ∈ gtbl := mg (mm_1 (List.mem_of_getElem? (i := 206) rfl)) rfl
set_option maxRecDepth 20000 in
theorem m_1_207 : (Jvm.Cond.fieldLink "DrawerGloves$Calendar" (32 : Nat) "DrawerGloves$Calendar" "size" "I") ∈ gtbl := mg (mm_1 (List.mem_of_getElem? (i := 207) rfl)) rfl
set_option maxRecDepth 20000 in
theorem m_1_208 : (Jvm.Cond.fieldLink "DrawerGloves$Calendar" (64 : Nat) "DrawerGloves$Calendar" "dearest" "I") ∈ gtbl := mg (mm_1 (List.mem_of_getElem? (i := 208) rfl)) rfl
set_option maxRecDepth 20000 in
theorem m_1_209 : (Jvm.Cond.fieldLink "DrawerGloves$Calendar" (36 : Nat) "DrawerGloves$Calendar" "best" "I") ∈ gtbl := mg (mm_1 (List.mem_of_getElem? (i := 209) rfl)) rfl
set_option maxRecDepth 20000 in
theorem m_1_210 : (Jvm.Cond.laysFinal "DrawerGloves$Calendar" "DrawerGloves$Calendar" "worn" "LDrawerGloves$Drawer;") ∈ gtbl := mg (mm_1 (List.mem_of_getElem? (i := 210) rfl)) rfl
set_option maxRecDepth 20000 in
theorem m_1_212 : (Jvm.Cond.laysFinal "DrawerGloves$Calendar" "DrawerGloves$Calendar" "codes" "[I") ∈ gtbl := mg (mm_1 (List.mem_of_getElem? (i := 212) rfl)) rfl
set_option maxRecDepth 20000 in
theorem m_1_214 : (Jvm.Cond.laysFinal "DrawerGloves$Calendar" "DrawerGloves$Calendar" "way" "[I") ∈ gtbl := mg (mm_1 (List.mem_of_getElem? (i := 214) rfl)) rfl
set_option maxRecDepth 20000 in
theorem m_1_216 : (Jvm.Cond.laysFinal "DrawerGloves$Calendar" "DrawerGloves$Calendar" "bestWay" "[I") ∈ gtbl := mg (mm_1 (List.mem_of_getElem? (i := 216) rfl)) rfl
set_option maxRecDepth 20000 in
theorem m_1_218 : (Jvm.Cond.lays "DrawerGloves$Calendar" "DrawerGloves$Calendar" "size" "I") ∈ gtbl := mg (mm_1 (List.mem_of_getElem? (i := 218) rfl)) rfl
set_option maxRecDepth 20000 in
theorem m_1_220 : (Jvm.Cond.lays "DrawerGloves$Calendar" "DrawerGloves$Calendar" "dearest" "I") ∈ gtbl := mg (mm_1 (List.mem_of_getElem? (i := 220) rfl)) rfl
set_option maxRecDepth 20000 in
theorem m_1_222 : (Jvm.Cond.lays "DrawerGloves$Calendar" "DrawerGloves$Calendar" "best" "I") ∈ gtbl := mg (mm_1 (List.mem_of_getElem? (i := 222) rfl)) rfl
set_option maxRecDepth 20000 in
theorem m_1_225 : (Jvm.Cond.classLink "DrawerGloves" (60 : Nat) "DrawerGloves$Guess") ∈ gtbl := mg (mm_1 (List.mem_of_getElem? (i := 225) rfl)) rfl
set_option maxRecDepth 20000 in
theorem m_1_226 : (Jvm.Cond.instantiable "DrawerGloves$Guess" (2 : Nat)) ∈ gtbl := mg (mm_1 (List.mem_of_getElem? (i := 226) rfl)) rfl
set_option maxRecDepth 20000 in
theorem m_1_227 : (Jvm.Cond.methodLink "DrawerGloves" (62 : Nat) ({ cls := "DrawerGloves$Guess", name := "<init>", desc := "()V" } : Jvm.MethodName)) ∈ gtbl := mg (mm_1 (List.mem_of_getElem? (i := 227) rfl)) rfl
set_option maxRecDepth 20000 in
theorem m_1_228 : (Jvm.Cond.instanceMethod ({ cls := "DrawerGloves$Guess", name := "<init>", desc := "()V" } : Jvm.MethodName)) ∈ gtbl := mg (mm_1 (List.mem_of_getElem? (i := 228) rfl)) rfl
set_option maxRecDepth 20000 in
theorem m_1_229 : (Jvm.Cond.code ({ cls := "DrawerGloves$Guess", name := "<init>", desc := "()V" } : Jvm.MethodName) prog_7_method_1_code (1 : Nat) (Option.none : Option Jvm.ClassFile.FieldType)) ∈ gtbl := mg (mm_1 (List.mem_of_getElem? (i := 229) rfl)) rfl
set_option maxRecDepth 20000 in
theorem m_1_230 : (Jvm.Cond.methodLink "DrawerGloves$Guess" (3 : Nat) ({ cls := "java/lang/Object", name := "<init>", desc := "()V" } : Jvm.MethodName)) ∈ gtbl := mg (mm_1 (List.mem_of_getElem? (i := 230) rfl)) rfl
set_option maxRecDepth 20000 in
theorem m_1_231 : (Jvm.Cond.classLink "DrawerGloves$Guess" (9 : Nat) "DrawerGloves$Glove") ∈ gtbl := mg (mm_1 (List.mem_of_getElem? (i := 231) rfl)) rfl
set_option maxRecDepth 20000 in
theorem m_1_232 : (Jvm.Cond.methodLink "DrawerGloves$Guess" (11 : Nat) ({ cls := "DrawerGloves$Glove", name := "<init>", desc := "()V" } : Jvm.MethodName)) ∈ gtbl := mg (mm_1 (List.mem_of_getElem? (i := 232) rfl)) rfl
set_option maxRecDepth 20000 in
theorem m_1_233 : (Jvm.Cond.fieldLink "DrawerGloves$Guess" (12 : Nat) "DrawerGloves$Guess" "maybe" "LDrawerGloves$Glove;") ∈ gtbl := mg (mm_1 (List.mem_of_getElem? (i := 233) rfl)) rfl
set_option maxRecDepth 20000 in
theorem m_1_234 : (Jvm.Cond.fieldLink "DrawerGloves$Guess" (18 : Nat) "DrawerGloves$Guess" "outcome" "[I") ∈ gtbl := mg (mm_1 (List.mem_of_getElem? (i := 234) rfl)) rfl
set_option maxRecDepth 20000 in
theorem m_1_235 : (Jvm.Cond.laysFinal "DrawerGloves$Guess" "DrawerGloves$Guess" "maybe" "LDrawerGloves$Glove;") ∈ gtbl := mg (mm_1 (List.mem_of_getElem? (i := 235) rfl)) rfl
set_option maxRecDepth 20000 in
theorem m_1_237 : (Jvm.Cond.laysFinal "DrawerGloves$Guess" "DrawerGloves$Guess" "outcome" "[I") ∈ gtbl := mg (mm_1 (List.mem_of_getElem? (i := 237) rfl)) rfl
set_option maxRecDepth 20000 in
theorem m_2_0 : (Jvm.Cond.classLink "DrawerGloves" (67 : Nat) "DrawerGloves$Rivals") ∈ gtbl := mg (mm_2 (List.mem_of_getElem? (i := 0) rfl)) rfl
set_option maxRecDepth 20000 in
theorem m_2_1 : (Jvm.Cond.instantiable "DrawerGloves$Rivals" (2 : Nat)) ∈ gtbl := mg (mm_2 (List.mem_of_getElem? (i := 1) rfl)) rfl
set_option maxRecDepth 20000 in
theorem m_2_2 : (Jvm.Cond.methodLink "DrawerGloves" (69 : Nat) ({ cls := "DrawerGloves$Rivals", name := "<init>", desc := "()V" } : Jvm.MethodName)) ∈ gtbl := mg (mm_2 (List.mem_of_getElem? (i := 2) rfl)) rfl
set_option maxRecDepth 20000 in
theorem m_2_3 : (Jvm.Cond.instanceMethod ({ cls := "DrawerGloves$Rivals", name := "<init>", desc := "()V" } : Jvm.MethodName)) ∈ gtbl := mg (mm_2 (List.mem_of_getElem? (i := 3) rfl)) rfl
set_option maxRecDepth 20000 in
theorem m_2_4 : (Jvm.Cond.code ({ cls := "DrawerGloves$Rivals", name := "<init>", desc := "()V" } : Jvm.MethodName) prog_10_method_1_code (2 : Nat) (Option.none : Option Jvm.ClassFile.FieldType)) ∈ gtbl := mg (mm_2 (List.mem_of_getElem? (i := 4) rfl)) rfl
set_option maxRecDepth 20000 in
theorem m_2_5 : (Jvm.Cond.methodLink "DrawerGloves$Rivals" (3 : Nat) ({ cls := "java/lang/Object", name := "<init>", desc := "()V" } : Jvm.MethodName)) ∈ gtbl := mg (mm_2 (List.mem_of_getElem? (i := 5) rfl)) rfl
set_option maxRecDepth 20000 in
theorem m_2_6 : (Jvm.Cond.fieldLink "DrawerGloves$Rivals" (11 : Nat) "DrawerGloves$Rivals" "known" "[I") ∈ gtbl := mg (mm_2 (List.mem_of_getElem? (i := 6) rfl)) rfl
set_option maxRecDepth 20000 in
theorem m_2_7 : (Jvm.Cond.fieldLink "DrawerGloves$Rivals" (15 : Nat) "DrawerGloves$Rivals" "inThrees" "[I") ∈ gtbl := mg (mm_2 (List.mem_of_getElem? (i := 7) rfl)) rfl
set_option maxRecDepth 20000 in
theorem m_2_8 : (Jvm.Cond.laysFinal "DrawerGloves$Rivals" "DrawerGloves$Rivals" "known" "[I") ∈ gtbl := mg (mm_2 (List.mem_of_getElem? (i := 8) rfl)) rfl
set_option maxRecDepth 20000 in
theorem m_2_10 : (Jvm.Cond.laysFinal "DrawerGloves$Rivals" "DrawerGloves$Rivals" "inThrees" "[I") ∈ gtbl := mg (mm_2 (List.mem_of_getElem? (i := 10) rfl)) rfl
set_option maxRecDepth 20000 in
theorem m_2_13 : (Jvm.Cond.classLink "DrawerGloves" (74 : Nat) "DrawerGloves$Chances") ∈ gtbl := mg (mm_2 (List.mem_of_getElem? (i := 13) rfl)) rfl
set_option maxRecDepth 20000 in
theorem m_2_14 : (Jvm.Cond.instantiable "DrawerGloves$Chances" (3 : Nat)) ∈ gtbl := mg (mm_2 (List.mem_of_getElem? (i := 14) rfl)) rfl
set_option maxRecDepth 20000 in
theorem m_2_15 : (Jvm.Cond.methodLink "DrawerGloves" (76 : Nat) ({ cls := "DrawerGloves$Chances", name := "<init>", desc := "()V" } : Jvm.MethodName)) ∈ gtbl := mg (mm_2 (List.mem_of_getElem? (i := 15) rfl)) rfl
set_option maxRecDepth 20000 in
theorem m_2_16 : (Jvm.Cond.instanceMethod ({ cls := "DrawerGloves$Chances", name := "<init>", desc := "()V" } : Jvm.MethodName)) ∈ gtbl := mg (mm_2 (List.mem_of_getElem? (i := 16) rfl)) rfl
set_option maxRecDepth 20000 in
theorem m_2_17 : (Jvm.Cond.code ({ cls := "DrawerGloves$Chances", name := "<init>", desc := "()V" } : Jvm.MethodName) prog_3_method_1_code (1 : Nat) (Option.none : Option Jvm.ClassFile.FieldType)) ∈ gtbl := mg (mm_2 (List.mem_of_getElem? (i := 17) rfl)) rfl
set_option maxRecDepth 20000 in
theorem m_2_18 : (Jvm.Cond.methodLink "DrawerGloves$Chances" (3 : Nat) ({ cls := "java/lang/Object", name := "<init>", desc := "()V" } : Jvm.MethodName)) ∈ gtbl := mg (mm_2 (List.mem_of_getElem? (i := 18) rfl)) rfl
set_option maxRecDepth 20000 in
theorem m_2_19 : (Jvm.Cond.fieldLink "DrawerGloves$Chances" (9 : Nat) "DrawerGloves$Chances" "loss" "[I") ∈ gtbl := mg (mm_2 (List.mem_of_getElem? (i := 19) rfl)) rfl
set_option maxRecDepth 20000 in
theorem m_2_20 : (Jvm.Cond.fieldLink "DrawerGloves$Chances" (15 : Nat) "DrawerGloves$Chances" "upper" "J") ∈ gtbl := mg (mm_2 (List.mem_of_getElem? (i := 20) rfl)) rfl
set_option maxRecDepth 20000 in
theorem m_2_21 : (Jvm.Cond.fieldLink "DrawerGloves" (315 : Nat) "DrawerGloves$Chances" "upper" "J") ∈ gtbl := mg (mm_2 (List.mem_of_getElem? (i := 21) rfl)) rfl
set_option maxRecDepth 20000 in
theorem m_2_22 : (Jvm.Cond.fieldLink "DrawerGloves$Chances" (19 : Nat) "DrawerGloves$Chances" "lower" "J") ∈ gtbl := mg (mm_2 (List.mem_of_getElem? (i := 22) rfl)) rfl
set_option maxRecDepth 20000 in
theorem m_2_23 : (Jvm.Cond.fieldLink "DrawerGloves" (319 : Nat) "DrawerGloves$Chances" "lower" "J") ∈ gtbl := mg (mm_2 (List.mem_of_getElem? (i := 23) rfl)) rfl
set_option maxRecDepth 20000 in
theorem m_2_24 : (Jvm.Cond.laysFinal "DrawerGloves$Chances" "DrawerGloves$Chances" "loss" "[I") ∈ gtbl := mg (mm_2 (List.mem_of_getElem? (i := 24) rfl)) rfl
set_option maxRecDepth 20000 in
theorem m_2_26 : (Jvm.Cond.lays "DrawerGloves$Chances" "DrawerGloves$Chances" "upper" "J") ∈ gtbl := mg (mm_2 (List.mem_of_getElem? (i := 26) rfl)) rfl
set_option maxRecDepth 20000 in
theorem m_2_28 : (Jvm.Cond.lays "DrawerGloves$Chances" "DrawerGloves$Chances" "lower" "J") ∈ gtbl := mg (mm_2 (List.mem_of_getElem? (i := 28) rfl)) rfl
set_option maxRecDepth 20000 in
theorem m_2_31 : (Jvm.Cond.fieldLink "DrawerGloves" (14 : Nat) "DrawerGloves" "rows" "LDrawerGloves$Rows;") ∈ gtbl := mg (mm_2 (List.mem_of_getElem? (i := 31) rfl)) rfl
set_option maxRecDepth 20000 in
theorem m_2_32 : (Jvm.Cond.fieldLink "DrawerGloves" (18 : Nat) "DrawerGloves" "texts" "LDrawerGloves$Rows;") ∈ gtbl := mg (mm_2 (List.mem_of_getElem? (i := 32) rfl)) rfl
set_option maxRecDepth 20000 in
theorem m_2_33 : (Jvm.Cond.fieldLink "DrawerGloves" (24 : Nat) "DrawerGloves" "reading" "LDrawerGloves$Reading;") ∈ gtbl := mg (mm_2 (List.mem_of_getElem? (i := 33) rfl)) rfl
set_option maxRecDepth 20000 in
theorem m_2_34 : (Jvm.Cond.fieldLink "DrawerGloves" (31 : Nat) "DrawerGloves" "chest" "LDrawerGloves$Drawer;") ∈ gtbl := mg (mm_2 (List.mem_of_getElem? (i := 34) rfl)) rfl
set_option maxRecDepth 20000 in
theorem m_2_35 : (Jvm.Cond.fieldLink "DrawerGloves" (37 : Nat) "DrawerGloves" "kept" "[LDrawerGloves$Deeds;") ∈ gtbl := mg (mm_2 (List.mem_of_getElem? (i := 35) rfl)) rfl
set_option maxRecDepth 20000 in
theorem m_2_36 : (Jvm.Cond.fieldLink "DrawerGloves" (49 : Nat) "DrawerGloves" "makings" "LDrawerGloves$Makings;") ∈ gtbl := mg (mm_2 (List.mem_of_getElem? (i := 36) rfl)) rfl
set_option maxRecDepth 20000 in
theorem m_2_37 : (Jvm.Cond.fieldLink "DrawerGloves" (56 : Nat) "DrawerGloves" "calendar" "LDrawerGloves$Calendar;") ∈ gtbl := mg (mm_2 (List.mem_of_getElem? (i := 37) rfl)) rfl
set_option maxRecDepth 20000 in
theorem m_2_38 : (Jvm.Cond.fieldLink "DrawerGloves" (63 : Nat) "DrawerGloves" "guess" "LDrawerGloves$Guess;") ∈ gtbl := mg (mm_2 (List.mem_of_getElem? (i := 38) rfl)) rfl
set_option maxRecDepth 20000 in
theorem m_2_39 : (Jvm.Cond.fieldLink "DrawerGloves" (70 : Nat) "DrawerGloves" "rivals" "LDrawerGloves$Rivals;") ∈ gtbl := mg (mm_2 (List.mem_of_getElem? (i := 39) rfl)) rfl
set_option maxRecDepth 20000 in
theorem m_2_40 : (Jvm.Cond.fieldLink "DrawerGloves" (77 : Nat) "DrawerGloves" "chances" "LDrawerGloves$Chances;") ∈ gtbl := mg (mm_2 (List.mem_of_getElem? (i := 40) rfl)) rfl
set_option maxRecDepth 20000 in
theorem m_2_41 : (Jvm.Cond.fieldLink "DrawerGloves" (81 : Nat) "DrawerGloves" "found" "[I") ∈ gtbl := mg (mm_2 (List.mem_of_getElem? (i := 41) rfl)) rfl
set_option maxRecDepth 20000 in
theorem m_2_42 : (Jvm.Cond.fieldLink "DrawerGloves" (85 : Nat) "DrawerGloves" "lastFound" "I") ∈ gtbl := mg (mm_2 (List.mem_of_getElem? (i := 42) rfl)) rfl
set_option maxRecDepth 20000 in
theorem m_2_43 : (Jvm.Cond.fieldLink "DrawerGloves" (88 : Nat) "DrawerGloves" "lastAsked" "I") ∈ gtbl := mg (mm_2 (List.mem_of_getElem? (i := 43) rfl)) rfl
set_option maxRecDepth 20000 in
theorem m_2_44 : (Jvm.Cond.laysFinal "DrawerGloves" "DrawerGloves" "rows" "LDrawerGloves$Rows;") ∈ gtbl := mg (mm_2 (List.mem_of_getElem? (i := 44) rfl)) rfl
set_option maxRecDepth 20000 in
theorem m_2_46 : (Jvm.Cond.laysFinal "DrawerGloves" "DrawerGloves" "texts" "LDrawerGloves$Rows;") ∈ gtbl := mg (mm_2 (List.mem_of_getElem? (i := 46) rfl)) rfl
set_option maxRecDepth 20000 in
theorem m_2_48 : (Jvm.Cond.laysFinal "DrawerGloves" "DrawerGloves" "reading" "LDrawerGloves$Reading;") ∈ gtbl := mg (mm_2 (List.mem_of_getElem? (i := 48) rfl)) rfl
set_option maxRecDepth 20000 in
theorem m_2_50 : (Jvm.Cond.laysFinal "DrawerGloves" "DrawerGloves" "chest" "LDrawerGloves$Drawer;") ∈ gtbl := mg (mm_2 (List.mem_of_getElem? (i := 50) rfl)) rfl
set_option maxRecDepth 20000 in
theorem m_2_52 : (Jvm.Cond.laysFinal "DrawerGloves" "DrawerGloves" "kept" "[LDrawerGloves$Deeds;") ∈ gtbl := mg (mm_2 (List.mem_of_getElem? (i := 52) rfl)) rfl
set_option maxRecDepth 20000 in
theorem m_2_54 : (Jvm.Cond.laysFinal "DrawerGloves" "DrawerGloves" "makings" "LDrawerGloves$Makings;") ∈ gtbl := mg (mm_2 (List.mem_of_getElem? (i := 54) rfl)) rfl
set_option maxRecDepth 20000 in
theorem m_2_56 : (Jvm.Cond.laysFinal "DrawerGloves" "DrawerGloves" "calendar" "LDrawerGloves$Calendar;") ∈ gtbl := mg (mm_2 (List.mem_of_getElem? (i := 56) rfl)) rfl
set_option maxRecDepth 20000 in
theorem m_2_58 : (Jvm.Cond.laysFinal "DrawerGloves" "DrawerGloves" "guess" "LDrawerGloves$Guess;") ∈ gtbl := mg (mm_2 (List.mem_of_getElem? (i := 58) rfl)) rfl
set_option maxRecDepth 20000 in
theorem m_2_60 : (Jvm.Cond.laysFinal "DrawerGloves" "DrawerGloves" "rivals" "LDrawerGloves$Rivals;") ∈ gtbl := mg (mm_2 (List.mem_of_getElem? (i := 60) rfl)) rfl
set_option maxRecDepth 20000 in
theorem m_2_62 : (Jvm.Cond.laysFinal "DrawerGloves" "DrawerGloves" "chances" "LDrawerGloves$Chances;") ∈ gtbl := mg (mm_2 (List.mem_of_getElem? (i := 62) rfl)) rfl
set_option maxRecDepth 20000 in
theorem m_2_64 : (Jvm.Cond.laysFinal "DrawerGloves" "DrawerGloves" "found" "[I") ∈ gtbl := mg (mm_2 (List.mem_of_getElem? (i := 64) rfl)) rfl
set_option maxRecDepth 20000 in
theorem m_2_66 : (Jvm.Cond.lays "DrawerGloves" "DrawerGloves" "lastFound" "I") ∈ gtbl := mg (mm_2 (List.mem_of_getElem? (i := 66) rfl)) rfl
set_option maxRecDepth 20000 in
theorem m_2_68 : (Jvm.Cond.lays "DrawerGloves" "DrawerGloves" "lastAsked" "I") ∈ gtbl := mg (mm_2 (List.mem_of_getElem? (i := 68) rfl)) rfl
set_option maxRecDepth 20000 in
theorem m_2_71 : (Jvm.Cond.methodLink "DrawerGlovesLaw" (13 : Nat) ({ cls := "DrawerGloves", name := "row", desc := "(II)I" } : Jvm.MethodName)) ∈ gtbl := mg (mm_2 (List.mem_of_getElem? (i := 71) rfl)) rfl
set_option maxRecDepth 20000 in
theorem m_2_72 : (Jvm.Cond.instanceMethod ({ cls := "DrawerGloves", name := "row", desc := "(II)I" } : Jvm.MethodName)) ∈ gtbl := mg (mm_2 (List.mem_of_getElem? (i := 72) rfl)) rfl
set_option maxRecDepth 20000 in
theorem m_2_73 : (Jvm.Cond.selects "DrawerGloves" ({ cls := "DrawerGloves", name := "row", desc := "(II)I" } : Jvm.MethodName) ({ cls := "DrawerGloves", name := "row", desc := "(II)I" } : Jvm.MethodName)) ∈ gtbl := mg (mm_2 (List.mem_of_getElem? (i := 73) rfl)) rfl
set_option maxRecDepth 20000 in
theorem m_2_74 : (Jvm.Cond.code ({ cls := "DrawerGloves", name := "row", desc := "(II)I" } : Jvm.MethodName) prog_1_method_2_code (3 : Nat) (Option.some Jvm.ClassFile.FieldType.int)) ∈ gtbl := mg (mm_2 (List.mem_of_getElem? (i := 74) rfl)) rfl
set_option maxRecDepth 20000 in
theorem m_2_75 : (Jvm.Cond.methodLink "DrawerGloves" (91 : Nat) ({ cls := "DrawerGloves$Rows", name := "isNumber", desc := "(I)Z" } : Jvm.MethodName)) ∈ gtbl := mg (mm_2 (List.mem_of_getElem? (i := 75) rfl)) rfl
set_option maxRecDepth 20000 in
theorem m_2_76 : (Jvm.Cond.instanceMethod ({ cls := "DrawerGloves$Rows", name := "isNumber", desc := "(I)Z" } : Jvm.MethodName)) ∈ gtbl := mg (mm_2 (List.mem_of_getElem? (i := 76) rfl)) rfl
set_option maxRecDepth 20000 in
theorem m_2_77 : (Jvm.Cond.selects "DrawerGloves$Rows" ({ cls := "DrawerGloves$Rows", name := "isNumber", desc := "(I)Z" } : Jvm.MethodName) ({ cls := "DrawerGloves$Rows", name := "isNumber", desc := "(I)Z" } : Jvm.MethodName)) ∈ gtbl := mg (mm_2 (List.mem_of_getElem? (i := 77) rfl)) rfl
set_option maxRecDepth 20000 in
theorem m_2_78 : (Jvm.Cond.code ({ cls := "DrawerGloves$Rows", name := "isNumber", desc := "(I)Z" } : Jvm.MethodName) prog_11_method_2_code (2 : Nat) (Option.some Jvm.ClassFile.FieldType.boolean)) ∈ gtbl := mg (mm_2 (List.mem_of_getElem? (i := 78) rfl)) rfl
set_option maxRecDepth 20000 in
theorem m_2_79 : (Jvm.Cond.methodLink "DrawerGloves" (95 : Nat) ({ cls := "DrawerGloves", name := "finds", desc := "(I)I" } : Jvm.MethodName)) ∈ gtbl := mg (mm_2 (List.mem_of_getElem? (i := 79) rfl)) rfl
set_option maxRecDepth 20000 in
theorem m_2_81 : (Jvm.Cond.instanceMethod ({ cls := "DrawerGloves", name := "finds", desc := "(I)I" } : Jvm.MethodName)) ∈ gtbl := mg (mm_2 (List.mem_of_getElem? (i := 81) rfl)) rfl
set_option maxRecDepth 20000 in
theorem m_2_82 : (Jvm.Cond.code ({ cls := "DrawerGloves", name := "finds", desc := "(I)I" } : Jvm.MethodName) prog_1_method_44_code (2 : Nat) (Option.some Jvm.ClassFile.FieldType.int)) ∈ gtbl := mg (mm_2 (List.mem_of_getElem? (i := 82) rfl)) rfl
set_option maxRecDepth 20000 in
theorem m_2_83 : (Jvm.Cond.methodLink "DrawerGloves" (99 : Nat) ({ cls := "DrawerGloves$Rows", name := "begin", desc := "(II)V" } : Jvm.MethodName)) ∈ gtbl := mg (mm_2 (List.mem_of_getElem? (i := 83) rfl)) rfl
set_option maxRecDepth 20000 in
theorem m_2_84 : (Jvm.Cond.instanceMethod ({ cls := "DrawerGloves$Rows", name := "begin", desc := "(II)V" } : Jvm.MethodName)) ∈ gtbl := mg (mm_2 (List.mem_of_getElem? (i := 84) rfl)) rfl
set_option maxRecDepth 20000 in
theorem m_2_85 : (Jvm.Cond.selects "DrawerGloves$Rows" ({ cls := "DrawerGloves$Rows", name := "begin", desc := "(II)V" } : Jvm.MethodName) ({ cls := "DrawerGloves$Rows", name := "begin", desc := "(II)V" } : Jvm.MethodName)) ∈ gtbl := mg (mm_2 (List.mem_of_getElem? (i := 85) rfl)) rfl
set_option maxRecDepth 20000 in
theorem m_2_86 : (Jvm.Cond.code ({ cls := "DrawerGloves$Rows", name := "begin", desc := "(II)V" } : Jvm.MethodName) prog_11_method_7_code (4 : Nat) (Option.none : Option Jvm.ClassFile.FieldType)) ∈ gtbl := mg (mm_2 (List.mem_of_getElem? (i := 86) rfl)) rfl
set_option maxRecDepth 20000 in
theorem m_2_87 : (Jvm.Cond.methodLink "DrawerGloves$Rows" (33 : Nat) ({ cls := "DrawerGloves$Rows", name := "isNumber", desc := "(I)Z" } : Jvm.MethodName)) ∈ gtbl := mg (mm_2 (List.mem_of_getElem? (i := 87) rfl)) rfl
set_option maxRecDepth 20000 in
theorem m_2_88 : (Jvm.Cond.methodLink "DrawerGlovesLaw" (18 : Nat) ({ cls := "DrawerGloves", name := "lay", desc := "(III)I" } : Jvm.MethodName)) ∈ gtbl := mg (mm_2 (List.mem_of_getElem? (i := 88) rfl)) rfl
set_option maxRecDepth 20000 in
theorem m_2_89 : (Jvm.Cond.instanceMethod ({ cls := "DrawerGloves", name := "lay", desc := "(III)I" } : Jvm.MethodName)) ∈ gtbl := mg (mm_2 (List.mem_of_getElem? (i := 89) rfl)) rfl
set_option maxRecDepth 20000 in
theorem m_2_90 : (Jvm.Cond.selects "DrawerGloves" ({ cls := "DrawerGloves", name := "lay", desc := "(III)I" } : Jvm.MethodName) ({ cls := "DrawerGloves", name := "lay", desc := "(III)I" } : Jvm.MethodName)) ∈ gtbl := mg (mm_2 (List.mem_of_getElem? (i := 90) rfl)) rfl
set_option maxRecDepth 20000 in
theorem m_2_91 : (Jvm.Cond.code ({ cls := "DrawerGloves", name := "lay", desc := "(III)I" } : Jvm.MethodName) prog_1_method_3_code (6 : Nat) (Option.some Jvm.ClassFile.FieldType.int)) ∈ gtbl := mg (mm_2 (List.mem_of_getElem? (i := 91) rfl)) rfl
set_option maxRecDepth 20000 in
theorem m_2_92 : (Jvm.Cond.methodLink "DrawerGloves" (103 : Nat) ({ cls := "DrawerGloves", name := "refusedPlace", desc := "(II)I" } : Jvm.MethodName)) ∈ gtbl := mg (mm_2 (List.mem_of_getElem? (i := 92) rfl)) rfl
set_option maxRecDepth 20000 in
theorem m_2_94 : (Jvm.Cond.instanceMethod ({ cls := "DrawerGloves", name := "refusedPlace", desc := "(II)I" } : Jvm.MethodName)) ∈ gtbl := mg (mm_2 (List.mem_of_getElem? (i := 94) rfl)) rfl
set_option maxRecDepth 20000 in
theorem m_2_95 : (Jvm.Cond.code ({ cls := "DrawerGloves", name := "refusedPlace", desc := "(II)I" } : Jvm.MethodName) prog_1_method_47_code (4 : Nat) (Option.some Jvm.ClassFile.FieldType.int)) ∈ gtbl := mg (mm_2 (List.mem_of_getElem? (i := 95) rfl)) rfl
set_option maxRecDepth 20000 in
theorem m_2_96 : (Jvm.Cond.methodLink "DrawerGloves" (116 : Nat) ({ cls := "DrawerGloves", name := "refusedRow", desc := "(I)I" } : Jvm.MethodName)) ∈ gtbl := mg (mm_2 (List.mem_of_getElem? (i := 96) rfl)) rfl
set_option maxRecDepth 20000 in
theorem m_2_98 : (Jvm.Cond.instanceMethod ({ cls := "DrawerGloves", name := "refusedRow", desc := "(I)I" } : Jvm.MethodName)) ∈ gtbl := mg (mm_2 (List.mem_of_getElem? (i := 98) rfl)) rfl
set_option maxRecDepth 20000 in
theorem m_2_99 : (Jvm.Cond.code ({ cls := "DrawerGloves", name := "refusedRow", desc := "(I)I" } : Jvm.MethodName) prog_1_method_46_code (2 : Nat) (Option.some Jvm.ClassFile.FieldType.int)) ∈ gtbl := mg (mm_2 (List.mem_of_getElem? (i := 99) rfl)) rfl
set_option maxRecDepth 20000 in
theorem m_2_100 : (Jvm.Cond.methodLink "DrawerGloves" (123 : Nat) ({ cls := "DrawerGloves$Rows", name := "isThere", desc := "(I)Z" } : Jvm.MethodName)) ∈ gtbl := mg (mm_2 (List.mem_of_getElem? (i := 100) rfl)) rfl
set_option maxRecDepth 20000 in
theorem m_2_101 : (Jvm.Cond.instanceMethod ({ cls := "DrawerGloves$Rows", name := "isThere", desc := "(I)Z" } : Jvm.MethodName)) ∈ gtbl := mg (mm_2 (List.mem_of_getElem? (i := 101) rfl)) rfl
set_option maxRecDepth 20000 in
theorem m_2_102 : (Jvm.Cond.selects "DrawerGloves$Rows" ({ cls := "DrawerGloves$Rows", name := "isThere", desc := "(I)Z" } : Jvm.MethodName) ({ cls := "DrawerGloves$Rows", name := "isThere", desc := "(I)Z" } : Jvm.MethodName)) ∈ gtbl := mg (mm_2 (List.mem_of_getElem? (i := 102) rfl)) rfl
set_option maxRecDepth 20000 in
theorem m_2_103 : (Jvm.Cond.code ({ cls := "DrawerGloves$Rows", name := "isThere", desc := "(I)Z" } : Jvm.MethodName) prog_11_method_4_code (2 : Nat) (Option.some Jvm.ClassFile.FieldType.boolean)) ∈ gtbl := mg (mm_2 (List.mem_of_getElem? (i := 103) rfl)) rfl
set_option maxRecDepth 20000 in
theorem m_2_104 : (Jvm.Cond.methodLink "DrawerGloves$Rows" (37 : Nat) ({ cls := "DrawerGloves$Rows", name := "sizeOf", desc := "(I)I" } : Jvm.MethodName)) ∈ gtbl := mg (mm_2 (List.mem_of_getElem? (i := 104) rfl)) rfl
set_option maxRecDepth 20000 in
theorem m_2_105 : (Jvm.Cond.instanceMethod ({ cls := "DrawerGloves$Rows", name := "sizeOf", desc := "(I)I" } : Jvm.MethodName)) ∈ gtbl := mg (mm_2 (List.mem_of_getElem? (i := 105) rfl)) rfl
set_option maxRecDepth 20000 in
theorem m_2_106 : (Jvm.Cond.selects "DrawerGloves$Rows" ({ cls := "DrawerGloves$Rows", name := "sizeOf", desc := "(I)I" } : Jvm.MethodName) ({ cls := "DrawerGloves$Rows", name := "sizeOf", desc := "(I)I" } : Jvm.MethodName)) ∈ gtbl := mg (mm_2 (List.mem_of_getElem? (i := 106) rfl)) rfl
set_option maxRecDepth 20000 in
theorem m_2_107 : (Jvm.Cond.code ({ cls := "DrawerGloves$Rows", name := "sizeOf", desc := "(I)I" } : Jvm.MethodName) prog_11_method_3_code (2 : Nat) (Option.some Jvm.ClassFile.FieldType.int)) ∈ gtbl := mg (mm_2 (List.mem_of_getElem? (i := 107) rfl)) rfl
set_option maxRecDepth 20000 in
theorem m_2_108 : (Jvm.Cond.methodLink "DrawerGloves" (144 : Nat) ({ cls := "DrawerGloves$Rows", name := "holds", desc := "(II)Z" } : Jvm.MethodName)) ∈ gtbl := mg (mm_2 (List.mem_of_getElem? (i := 108) rfl)) rfl
set_option maxRecDepth 20000 in
theorem m_2_109 : (Jvm.Cond.instanceMethod ({ cls := "DrawerGloves$Rows", name := "holds", desc := "(II)Z" } : Jvm.MethodName)) ∈ gtbl := mg (mm_2 (List.mem_of_getElem? (i := 109) rfl)) rfl
set_option maxRecDepth 20000 in
theorem m_2_110 : (Jvm.Cond.selects "DrawerGloves$Rows" ({ cls := "DrawerGloves$Rows", name := "holds", desc := "(II)Z" } : Jvm.MethodName) ({ cls := "DrawerGloves$Rows", name := "holds", desc := "(II)Z" } : Jvm.MethodName)) ∈ gtbl := mg (mm_2 (List.mem_of_getElem? (i := 110) rfl)) rfl
set_option maxRecDepth 20000 in
theorem m_2_111 : (Jvm.Cond.code ({ cls := "DrawerGloves$Rows", name := "holds", desc := "(II)Z" } : Jvm.MethodName) prog_11_method_5_code (3 : Nat) (Option.some Jvm.ClassFile.FieldType.boolean)) ∈ gtbl := mg (mm_2 (List.mem_of_getElem? (i := 111) rfl)) rfl
set_option maxRecDepth 20000 in
theorem m_2_112 : (Jvm.Cond.methodLink "DrawerGloves" (107 : Nat) ({ cls := "DrawerGloves$Rows", name := "read", desc := "(II)I" } : Jvm.MethodName)) ∈ gtbl := mg (mm_2 (List.mem_of_getElem? (i := 112) rfl)) rfl
set_option maxRecDepth 20000 in
theorem m_2_113 : (Jvm.Cond.instanceMethod ({ cls := "DrawerGloves$Rows", name := "read", desc := "(II)I" } : Jvm.MethodName)) ∈ gtbl := mg (mm_2 (List.mem_of_getElem? (i := 113) rfl)) rfl
set_option maxRecDepth 20000 in
theorem m_2_114 : (Jvm.Cond.selects "DrawerGloves$Rows" ({ cls := "DrawerGloves$Rows", name := "read", desc := "(II)I" } : Jvm.MethodName) ({ cls := "DrawerGloves$Rows", name := "read", desc := "(II)I" } : Jvm.MethodName)) ∈ gtbl := mg (mm_2 (List.mem_of_getElem? (i := 114) rfl)) rfl
set_option maxRecDepth 20000 in
theorem m_2_115 : (Jvm.Cond.code ({ cls := "DrawerGloves$Rows", name := "read", desc := "(II)I" } : Jvm.MethodName) prog_11_method_9_code (3 : Nat) (Option.some Jvm.ClassFile.FieldType.int)) ∈ gtbl := mg (mm_2 (List.mem_of_getElem? (i := 115) rfl)) rfl
set_option maxRecDepth 20000 in
theorem m_2_116 : (Jvm.Cond.methodLink "DrawerGloves$Rows" (41 : Nat) ({ cls := "DrawerGloves$Rows", name := "holds", desc := "(II)Z" } : Jvm.MethodName)) ∈ gtbl := mg (mm_2 (List.mem_of_getElem? (i := 116) rfl)) rfl
set_option maxRecDepth 20000 in
theorem m_2_117 : (Jvm.Cond.methodLink "DrawerGloves" (110 : Nat) ({ cls := "DrawerGloves$Rows", name := "write", desc := "(III)V" } : Jvm.MethodName)) ∈ gtbl := mg (mm_2 (List.mem_of_getElem? (i := 117) rfl)) rfl
set_option maxRecDepth 20000 in
theorem m_2_118 : (Jvm.Cond.instanceMethod ({ cls := "DrawerGloves$Rows", name := "write", desc := "(III)V" } : Jvm.MethodName)) ∈ gtbl := mg (mm_2 (List.mem_of_getElem? (i := 118) rfl)) rfl
set_option maxRecDepth 20000 in
theorem m_2_119 : (Jvm.Cond.selects "DrawerGloves$Rows" ({ cls := "DrawerGloves$Rows", name := "write", desc := "(III)V" } : Jvm.MethodName) ({ cls := "DrawerGloves$Rows", name := "write", desc := "(III)V" } : Jvm.MethodName)) ∈ gtbl := mg (mm_2 (List.mem_of_getElem? (i := 119) rfl)) rfl
set_option maxRecDepth 20000 in
theorem m_2_120 : (Jvm.Cond.code ({ cls := "DrawerGloves$Rows", name := "write", desc := "(III)V" } : Jvm.MethodName) prog_11_method_10_code (4 : Nat) (Option.none : Option Jvm.ClassFile.FieldType)) ∈ gtbl := mg (mm_2 (List.mem_of_getElem? (i := 120) rfl)) rfl
set_option maxRecDepth 20000 in
theorem m_2_121 : (Jvm.Cond.methodLink "DrawerGloves" (113 : Nat) ({ cls := "DrawerGloves", name := "tells", desc := "(I)I" } : Jvm.MethodName)) ∈ gtbl := mg (mm_2 (List.mem_of_getElem? (i := 121) rfl)) rfl
set_option maxRecDepth 20000 in
theorem m_2_123 : (Jvm.Cond.instanceMethod ({ cls := "DrawerGloves", name := "tells", desc := "(I)I" } : Jvm.MethodName)) ∈ gtbl := mg (mm_2 (List.mem_of_getElem? (i := 123) rfl)) rfl
set_option maxRecDepth 20000 in
theorem m_2_124 : (Jvm.Cond.code ({ cls := "DrawerGloves", name := "tells", desc := "(I)I" } : Jvm.MethodName) prog_1_method_45_code (2 : Nat) (Option.some Jvm.ClassFile.FieldType.int)) ∈ gtbl := mg (mm_2 (List.mem_of_getElem? (i := 124) rfl)) rfl
set_option maxRecDepth 20000 in
theorem m_2_125 : (Jvm.Cond.methodLink "DrawerGlovesLaw" (23 : Nat) ({ cls := "DrawerGloves", name := "at", desc := "(II)I" } : Jvm.MethodName)) ∈ gtbl := mg (mm_2 (List.mem_of_getElem? (i := 125) rfl)) rfl
set_option maxRecDepth 20000 in
theorem m_2_126 : (Jvm.Cond.instanceMethod ({ cls := "DrawerGloves", name := "at", desc := "(II)I" } : Jvm.MethodName)) ∈ gtbl := mg (mm_2 (List.mem_of_getElem? (i := 126) rfl)) rfl
set_option maxRecDepth 20000 in
theorem m_2_127 : (Jvm.Cond.selects "DrawerGloves" ({ cls := "DrawerGloves", name := "at", desc := "(II)I" } : Jvm.MethodName) ({ cls := "DrawerGloves", name := "at", desc := "(II)I" } : Jvm.MethodName)) ∈ gtbl := mg (mm_2 (List.mem_of_getElem? (i := 127) rfl)) rfl
set_option maxRecDepth 20000 in
theorem m_2_128 : (Jvm.Cond.code ({ cls := "DrawerGloves", name := "at", desc := "(II)I" } : Jvm.MethodName) prog_1_method_4_code (4 : Nat) (Option.some Jvm.ClassFile.FieldType.int)) ∈ gtbl := mg (mm_2 (List.mem_of_getElem? (i := 128) rfl)) rfl
set_option maxRecDepth 20000 in
theorem m_2_129 : (Jvm.Cond.methodLink "DrawerGlovesLaw" (27 : Nat) ({ cls := "DrawerGloves", name := "tear", desc := "(I)I" } : Jvm.MethodName)) ∈ gtbl := mg (mm_2 (List.mem_of_getElem? (i := 129) rfl)) rfl
set_option maxRecDepth 20000 in
theorem m_2_130 : (Jvm.Cond.instanceMethod ({ cls := "DrawerGloves", name := "tear", desc := "(I)I" } : Jvm.MethodName)) ∈ gtbl := mg (mm_2 (List.mem_of_getElem? (i := 130) rfl)) rfl
set_option maxRecDepth 20000 in
theorem m_2_131 : (Jvm.Cond.selects "DrawerGloves" ({ cls := "DrawerGloves", name := "tear", desc := "(I)I" } : Jvm.MethodName) ({ cls := "DrawerGloves", name := "tear", desc := "(I)I" } : Jvm.MethodName)) ∈ gtbl := mg (mm_2 (List.mem_of_getElem? (i := 131) rfl)) rfl
set_option maxRecDepth 20000 in
theorem m_2_132 : (Jvm.Cond.code ({ cls := "DrawerGloves", name := "tear", desc := "(I)I" } : Jvm.MethodName) prog_1_method_5_code (3 : Nat) (Option.some Jvm.ClassFile.FieldType.int)) ∈ gtbl := mg (mm_2 (List.mem_of_getElem? (i := 132) rfl)) rfl
set_option maxRecDepth 20000 in
theorem m_2_133 : (Jvm.Cond.methodLink "DrawerGloves" (119 : Nat) ({ cls := "DrawerGloves$Rows", name := "drop", desc := "(I)V" } : Jvm.MethodName)) ∈ gtbl := mg (mm_2 (List.mem_of_getElem? (i := 133) rfl)) rfl
set_option maxRecDepth 20000 in
theorem m_2_134 : (Jvm.Cond.instanceMethod ({ cls := "DrawerGloves$Rows", name := "drop", desc := "(I)V" } : Jvm.MethodName)) ∈ gtbl := mg (mm_2 (List.mem_of_getElem? (i := 134) rfl)) rfl
set_option maxRecDepth 20000 in
theorem m_2_135 : (Jvm.Cond.selects "DrawerGloves$Rows" ({ cls := "DrawerGloves$Rows", name := "drop", desc := "(I)V" } : Jvm.MethodName) ({ cls := "DrawerGloves$Rows", name := "drop", desc := "(I)V" } : Jvm.MethodName)) ∈ gtbl := mg (mm_2 (List.mem_of_getElem? (i := 135) rfl)) rfl
set_option maxRecDepth 20000 in
theorem m_2_136 : (Jvm.Cond.code ({ cls := "DrawerGloves$Rows", name := "drop", desc := "(I)V" } : Jvm.MethodName) prog_11_method_8_code (2 : Nat) (Option.none : Option Jvm.ClassFile.FieldType)) ∈ gtbl := mg (mm_2 (List.mem_of_getElem? (i := 136) rfl)) rfl
set_option maxRecDepth 20000 in
theorem m_2_137 : (Jvm.Cond.methodLink "DrawerGlovesLaw" (32 : Nat) ({ cls := "DrawerGloves", name := "copy", desc := "(IIIII)I" } : Jvm.MethodName)) ∈ gtbl := mg (mm_2 (List.mem_of_getElem? (i := 137) rfl)) rfl
set_option maxRecDepth 20000 in
theorem m_2_138 : (Jvm.Cond.instanceMethod ({ cls := "DrawerGloves", name := "copy", desc := "(IIIII)I" } : Jvm.MethodName)) ∈ gtbl := mg (mm_2 (List.mem_of_getElem? (i := 138) rfl)) rfl
set_option maxRecDepth 20000 in
theorem m_2_139 : (Jvm.Cond.selects "DrawerGloves" ({ cls := "DrawerGloves", name := "copy", desc := "(IIIII)I" } : Jvm.MethodName) ({ cls := "DrawerGloves", name := "copy", desc := "(IIIII)I" } : Jvm.MethodName)) ∈ gtbl := mg (mm_2 (List.mem_of_getElem? (i := 139) rfl)) rfl
set_option maxRecDepth 20000 in
theorem m_2_140 : (Jvm.Cond.code ({ cls := "DrawerGloves", name := "copy", desc := "(IIIII)I" } : Jvm.MethodName) prog_1_method_6_code (6 : Nat) (Option.some Jvm.ClassFile.FieldType.int)) ∈ gtbl := mg (mm_2 (List.mem_of_getElem? (i := 140) rfl)) rfl
set_option maxRecDepth 20000 in
theorem m_2_141 : (Jvm.Cond.methodLink "DrawerGloves" (126 : Nat) ({ cls := "DrawerGloves$Rows", name := "reaches", desc := "(III)Z" } : Jvm.MethodName)) ∈ gtbl := mg (mm_2 (List.mem_of_getElem? (i := 141) rfl)) rfl
set_option maxRecDepth 20000 in
theorem m_2_142 : (Jvm.Cond.instanceMethod ({ cls := "DrawerGloves$Rows", name := "reaches", desc := "(III)Z" } : Jvm.MethodName)) ∈ gtbl := mg (mm_2 (List.mem_of_getElem? (i := 142) rfl)) rfl
set_option maxRecDepth 20000 in
theorem m_2_143 : (Jvm.Cond.selects "DrawerGloves$Rows" ({ cls := "DrawerGloves$Rows", name := "reaches", desc := "(III)Z" } : Jvm.MethodName) ({ cls := "DrawerGloves$Rows", name := "reaches", desc := "(III)Z" } : Jvm.MethodName)) ∈ gtbl := mg (mm_2 (List.mem_of_getElem? (i := 143) rfl)) rfl
set_option maxRecDepth 20000 in
theorem m_2_144 : (Jvm.Cond.code ({ cls := "DrawerGloves$Rows", name := "reaches", desc := "(III)Z" } : Jvm.MethodName) prog_11_method_6_code (5 : Nat) (Option.some Jvm.ClassFile.FieldType.boolean)) ∈ gtbl := mg (mm_2 (List.mem_of_getElem? (i := 144) rfl)) rfl
set_option maxRecDepth 20000 in
theorem m_2_145 : (Jvm.Cond.methodLink "DrawerGloves" (130 : Nat) ({ cls := "DrawerGloves$Rows", name := "move", desc := "(IIIII)V" } : Jvm.MethodName)) ∈ gtbl := mg (mm_2 (List.mem_of_getElem? (i := 145) rfl)) rfl
set_option maxRecDepth 20000 in
theorem m_2_146 : (Jvm.Cond.instanceMethod ({ cls := "DrawerGloves$Rows", name := "move", desc := "(IIIII)V" } : Jvm.MethodName)) ∈ gtbl := mg (mm_2 (List.mem_of_getElem? (i := 146) rfl)) rfl
set_option maxRecDepth 20000 in
theorem m_2_147 : (Jvm.Cond.selects "DrawerGloves$Rows" ({ cls := "DrawerGloves$Rows", name := "move", desc := "(IIIII)V" } : Jvm.MethodName) ({ cls := "DrawerGloves$Rows", name := "move", desc := "(IIIII)V" } : Jvm.MethodName)) ∈ gtbl := mg (mm_2 (List.mem_of_getElem? (i := 147) rfl)) rfl
set_option maxRecDepth 20000 in
theorem m_2_148 : (Jvm.Cond.code ({ cls := "DrawerGloves$Rows", name := "move", desc := "(IIIII)V" } : Jvm.MethodName) prog_11_method_11_code (6 : Nat) (Option.none : Option Jvm.ClassFile.FieldType)) ∈ gtbl := mg (mm_2 (List.mem_of_getElem? (i := 148) rfl)) rfl
set_option maxRecDepth 20000 in
theorem m_2_149 : (Jvm.Cond.methodLink "DrawerGloves$Rows" (45 : Nat) ({ cls := "DrawerGloves$Rows", name := "reaches", desc := "(III)Z" } : Jvm.MethodName)) ∈ gtbl := mg (mm_2 (List.mem_of_getElem? (i := 149) rfl)) rfl
set_option maxRecDepth 20000 in
theorem m_2_150 : (Jvm.Cond.methodLink "DrawerGloves$Rows" (49 : Nat) ({ cls := "java/lang/System", name := "arraycopy", desc := "(Ljava/lang/Object;ILjava/lang/Object;II)V" } : Jvm.MethodName)) ∈ gtbl := mg (mm_2 (List.mem_of_getElem? (i := 150) rfl)) rfl
set_option maxRecDepth 20000 in
theorem m_2_151 : (Jvm.Cond.static ({ cls := "java/lang/System", name := "arraycopy", desc := "(Ljava/lang/Object;ILjava/lang/Object;II)V" } : Jvm.MethodName)) ∈ gtbl := mg (mm_2 (List.mem_of_getElem? (i := 151) rfl)) rfl
set_option maxRecDepth 20000 in
theorem m_2_152 : (Jvm.Cond.native ({ cls := "java/lang/System", name := "arraycopy", desc := "(Ljava/lang/Object;ILjava/lang/Object;II)V" } : Jvm.MethodName)) ∈ gtbl := mg (mm_2 (List.mem_of_getElem? (i := 152) rfl)) rfl
set_option maxRecDepth 20000 in
theorem m_2_153 : (Jvm.Cond.methodLink "DrawerGlovesLaw" (37 : Nat) ({ cls := "DrawerGloves", name := "mean", desc := "(I)I" } : Jvm.MethodName)) ∈ gtbl := mg (mm_2 (List.mem_of_getElem? (i := 153) rfl)) rfl
set_option maxRecDepth 20000 in
theorem m_2_154 : (Jvm.Cond.instanceMethod ({ cls := "DrawerGloves", name := "mean", desc := "(I)I" } : Jvm.MethodName)) ∈ gtbl := mg (mm_2 (List.mem_of_getElem? (i := 154) rfl)) rfl
set_option maxRecDepth 20000 in
theorem m_2_155 : (Jvm.Cond.selects "DrawerGloves" ({ cls := "DrawerGloves", name := "mean", desc := "(I)I" } : Jvm.MethodName) ({ cls := "DrawerGloves", name := "mean", desc := "(I)I" } : Jvm.MethodName)) ∈ gtbl := mg (mm_2 (List.mem_of_getElem? (i := 155) rfl)) rfl
set_option maxRecDepth 20000 in
theorem m_2_156 : (Jvm.Cond.code ({ cls := "DrawerGloves", name := "mean", desc := "(I)I" } : Jvm.MethodName) prog_1_method_7_code (4 : Nat) (Option.some Jvm.ClassFile.FieldType.int)) ∈ gtbl := mg (mm_2 (List.mem_of_getElem? (i := 156) rfl)) rfl
set_option maxRecDepth 20000 in
theorem m_2_157 : (Jvm.Cond.methodLink "DrawerGloves" (134 : Nat) ({ cls := "DrawerGloves$Rows", name := "sizeOf", desc := "(I)I" } : Jvm.MethodName)) ∈ gtbl := mg (mm_2 (List.mem_of_getElem? (i := 157) rfl)) rfl
set_option maxRecDepth 20000 in
theorem m_2_158 : (Jvm.Cond.methodLink "DrawerGloves" (137 : Nat) ({ cls := "DrawerGloves$Rows", name := "total", desc := "(I)J" } : Jvm.MethodName)) ∈ gtbl := mg (mm_2 (List.mem_of_getElem? (i := 158) rfl)) rfl
set_option maxRecDepth 20000 in
theorem m_2_159 : (Jvm.Cond.instanceMethod ({ cls := "DrawerGloves$Rows", name := "total", desc := "(I)J" } : Jvm.MethodName)) ∈ gtbl := mg (mm_2 (List.mem_of_getElem? (i := 159) rfl)) rfl
set_option maxRecDepth 20000 in
theorem m_2_160 : (Jvm.Cond.selects "DrawerGloves$Rows" ({ cls := "DrawerGloves$Rows", name := "total", desc := "(I)J" } : Jvm.MethodName) ({ cls := "DrawerGloves$Rows", name := "total", desc := "(I)J" } : Jvm.MethodName)) ∈ gtbl := mg (mm_2 (List.mem_of_getElem? (i := 160) rfl)) rfl
set_option maxRecDepth 20000 in
theorem m_2_161 : (Jvm.Cond.code ({ cls := "DrawerGloves$Rows", name := "total", desc := "(I)J" } : Jvm.MethodName) prog_11_method_12_code (5 : Nat) (Option.some Jvm.ClassFile.FieldType.long)) ∈ gtbl := mg (mm_2 (List.mem_of_getElem? (i := 161) rfl)) rfl
set_option maxRecDepth 20000 in
theorem m_2_162 : (Jvm.Cond.methodLink "DrawerGloves$Rows" (55 : Nat) ({ cls := "DrawerGloves$Rows", name := "read", desc := "(II)I" } : Jvm.MethodName)) ∈ gtbl := mg (mm_2 (List.mem_of_getElem? (i := 162) rfl)) rfl
set_option maxRecDepth 20000 in
theorem m_2_163 : (Jvm.Cond.methodLink "DrawerGlovesLaw" (41 : Nat) ({ cls := "DrawerGloves", name := "text", desc := "(II)I" } : Jvm.MethodName)) ∈ gtbl := mg (mm_2 (List.mem_of_getElem? (i := 163) rfl)) rfl
set_option maxRecDepth 20000 in
theorem m_2_164 : (Jvm.Cond.instanceMethod ({ cls := "DrawerGloves", name := "text", desc := "(II)I" } : Jvm.MethodName)) ∈ gtbl := mg (mm_2 (List.mem_of_getElem? (i := 164) rfl)) rfl
set_option maxRecDepth 20000 in
theorem m_2_165 : (Jvm.Cond.selects "DrawerGloves" ({ cls := "DrawerGloves", name := "text", desc := "(II)I" } : Jvm.MethodName) ({ cls := "DrawerGloves", name := "text", desc := "(II)I" } : Jvm.MethodName)) ∈ gtbl := mg (mm_2 (List.mem_of_getElem? (i := 165) rfl)) rfl
set_option maxRecDepth 20000 in
theorem m_2_166 : (Jvm.Cond.code ({ cls := "DrawerGloves", name := "text", desc := "(II)I" } : Jvm.MethodName) prog_1_method_8_code (3 : Nat) (Option.some Jvm.ClassFile.FieldType.int)) ∈ gtbl := mg (mm_2 (List.mem_of_getElem? (i := 166) rfl)) rfl
set_option maxRecDepth 20000 in
theorem m_2_167 : (Jvm.Cond.methodLink "DrawerGlovesLaw" (45 : Nat) ({ cls := "DrawerGloves", name := "put", desc := "(III)I" } : Jvm.MethodName)) ∈ gtbl := mg (mm_2 (List.mem_of_getElem? (i := 167) rfl)) rfl
set_option maxRecDepth 20000 in
theorem m_2_168 : (Jvm.Cond.instanceMethod ({ cls := "DrawerGloves", name := "put", desc := "(III)I" } : Jvm.MethodName)) ∈ gtbl := mg (mm_2 (List.mem_of_getElem? (i := 168) rfl)) rfl
set_option maxRecDepth 20000 in
theorem m_2_169 : (Jvm.Cond.selects "DrawerGloves" ({ cls := "DrawerGloves", name := "put", desc := "(III)I" } : Jvm.MethodName) ({ cls := "DrawerGloves", name := "put", desc := "(III)I" } : Jvm.MethodName)) ∈ gtbl := mg (mm_2 (List.mem_of_getElem? (i := 169) rfl)) rfl
set_option maxRecDepth 20000 in
theorem m_2_170 : (Jvm.Cond.code ({ cls := "DrawerGloves", name := "put", desc := "(III)I" } : Jvm.MethodName) prog_1_method_9_code (6 : Nat) (Option.some Jvm.ClassFile.FieldType.int)) ∈ gtbl := mg (mm_2 (List.mem_of_getElem? (i := 170) rfl)) rfl
set_option maxRecDepth 20000 in
theorem m_2_171 : (Jvm.Cond.methodLink "DrawerGloves" (141 : Nat) ({ cls := "DrawerGloves", name := "refusedText", desc := "(I)I" } : Jvm.MethodName)) ∈ gtbl := mg (mm_2 (List.mem_of_getElem? (i := 171) rfl)) rfl
set_option maxRecDepth 20000 in
theorem m_2_173 : (Jvm.Cond.instanceMethod ({ cls := "DrawerGloves", name := "refusedText", desc := "(I)I" } : Jvm.MethodName)) ∈ gtbl := mg (mm_2 (List.mem_of_getElem? (i := 173) rfl)) rfl
set_option maxRecDepth 20000 in
theorem m_2_174 : (Jvm.Cond.code ({ cls := "DrawerGloves", name := "refusedText", desc := "(I)I" } : Jvm.MethodName) prog_1_method_48_code (2 : Nat) (Option.some Jvm.ClassFile.FieldType.int)) ∈ gtbl := mg (mm_2 (List.mem_of_getElem? (i := 174) rfl)) rfl
set_option maxRecDepth 20000 in
theorem m_2_175 : (Jvm.Cond.methodLink "DrawerGlovesLaw" (49 : Nat) ({ cls := "DrawerGloves", name := "fault", desc := "(I)I" } : Jvm.MethodName)) ∈ gtbl := mg (mm_2 (List.mem_of_getElem? (i := 175) rfl)) rfl
set_option maxRecDepth 20000 in
theorem m_2_176 : (Jvm.Cond.instanceMethod ({ cls := "DrawerGloves", name := "fault", desc := "(I)I" } : Jvm.MethodName)) ∈ gtbl := mg (mm_2 (List.mem_of_getElem? (i := 176) rfl)) rfl
set_option maxRecDepth 20000 in
theorem m_2_177 : (Jvm.Cond.selects "DrawerGloves" ({ cls := "DrawerGloves", name := "fault", desc := "(I)I" } : Jvm.MethodName) ({ cls := "DrawerGloves", name := "fault", desc := "(I)I" } : Jvm.MethodName)) ∈ gtbl := mg (mm_2 (List.mem_of_getElem? (i := 177) rfl)) rfl
set_option maxRecDepth 20000 in
theorem m_2_178 : (Jvm.Cond.code ({ cls := "DrawerGloves", name := "fault", desc := "(I)I" } : Jvm.MethodName) prog_1_method_10_code (3 : Nat) (Option.some Jvm.ClassFile.FieldType.int)) ∈ gtbl := mg (mm_2 (List.mem_of_getElem? (i := 178) rfl)) rfl
set_option maxRecDepth 20000 in
theorem m_2_179 : (Jvm.Cond.methodLink "DrawerGloves" (148 : Nat) ({ cls := "DrawerGloves$Reading", name := "faultOf", desc := "(LDrawerGloves$Rows;I)I" } : Jvm.MethodName)) ∈ gtbl := mg (mm_2 (List.mem_of_getElem? (i := 179) rfl)) rfl
set_option maxRecDepth 20000 in
theorem m_2_180 : (Jvm.Cond.instanceMethod ({ cls := "DrawerGloves$Reading", name := "faultOf", desc := "(LDrawerGloves$Rows;I)I" } : Jvm.MethodName)) ∈ gtbl := mg (mm_2 (List.mem_of_getElem? (i := 180) rfl)) rfl
set_option maxRecDepth 20000 in
theorem m_2_181 : (Jvm.Cond.selects "DrawerGloves$Reading" ({ cls := "DrawerGloves$Reading", name := "faultOf", desc := "(LDrawerGloves$Rows;I)I" } : Jvm.MethodName) ({ cls := "DrawerGloves$Reading", name := "faultOf", desc := "(LDrawerGloves$Rows;I)I" } : Jvm.MethodName)) ∈ gtbl := mg (mm_2 (List.mem_of_getElem? (i := 181) rfl)) rfl
set_option maxRecDepth 20000 in
theorem m_2_182 : (Jvm.Cond.code ({ cls := "DrawerGloves$Reading", name := "faultOf", desc := "(LDrawerGloves$Rows;I)I" } : Jvm.MethodName) prog_9_method_2_code (6 : Nat) (Option.some Jvm.ClassFile.FieldType.int)) ∈ gtbl := mg (mm_2 (List.mem_of_getElem? (i := 182) rfl)) rfl
set_option maxRecDepth 20000 in
theorem m_2_183 : (Jvm.Cond.methodLink "DrawerGloves$Reading" (28 : Nat) ({ cls := "DrawerGloves$Rows", name := "sizeOf", desc := "(I)I" } : Jvm.MethodName)) ∈ gtbl := mg (mm_2 (List.mem_of_getElem? (i := 183) rfl)) rfl
set_option maxRecDepth 20000 in
theorem m_2_184 : (Jvm.Cond.methodLink "DrawerGloves$Reading" (34 : Nat) ({ cls := "DrawerGloves$Reading", name := "pastBlanks", desc := "(LDrawerGloves$Rows;II)I" } : Jvm.MethodName)) ∈ gtbl := mg (mm_2 (List.mem_of_getElem? (i := 184) rfl)) rfl
set_option maxRecDepth 20000 in
theorem m_2_185 : (Jvm.Cond.static ({ cls := "DrawerGloves$Reading", name := "pastBlanks", desc := "(LDrawerGloves$Rows;II)I" } : Jvm.MethodName)) ∈ gtbl := mg (mm_2 (List.mem_of_getElem? (i := 185) rfl)) rfl
set_option maxRecDepth 20000 in
theorem m_2_186 : (Jvm.Cond.code ({ cls := "DrawerGloves$Reading", name := "pastBlanks", desc := "(LDrawerGloves$Rows;II)I" } : Jvm.MethodName) prog_9_method_4_code (5 : Nat) (Option.some Jvm.ClassFile.FieldType.int)) ∈ gtbl := mg (mm_2 (List.mem_of_getElem? (i := 186) rfl)) rfl
set_option maxRecDepth 20000 in
theorem m_2_187 : (Jvm.Cond.methodLink "DrawerGloves$Reading" (38 : Nat) ({ cls := "DrawerGloves$Rows", name := "read", desc := "(II)I" } : Jvm.MethodName)) ∈ gtbl := mg (mm_2 (List.mem_of_getElem? (i := 187) rfl)) rfl
set_option maxRecDepth 20000 in
theorem m_2_188 : (Jvm.Cond.methodLink "DrawerGloves$Reading" (42 : Nat) ({ cls := "DrawerGloves$Reading", name := "figure", desc := "(LDrawerGloves$Rows;IIII)I" } : Jvm.MethodName)) ∈ gtbl := mg (mm_2 (List.mem_of_getElem? (i := 188) rfl)) rfl
set_option maxRecDepth 20000 in
theorem m_2_189 : (Jvm.Cond.static ({ cls := "DrawerGloves$Reading", name := "figure", desc := "(LDrawerGloves$Rows;IIII)I" } : Jvm.MethodName)) ∈ gtbl := mg (mm_2 (List.mem_of_getElem? (i := 189) rfl)) rfl
set_option maxRecDepth 20000 in
theorem m_2_190 : (Jvm.Cond.code ({ cls := "DrawerGloves$Reading", name := "figure", desc := "(LDrawerGloves$Rows;IIII)I" } : Jvm.MethodName) prog_9_method_5_code (6 : Nat) (Option.some Jvm.ClassFile.FieldType.int)) ∈ gtbl := mg (mm_2 (List.mem_of_getElem? (i := 190) rfl)) rfl
set_option maxRecDepth 20000 in
theorem m_2_191 : (Jvm.Cond.methodLink "DrawerGloves$Reading" (55 : Nat) ({ cls := "DrawerGloves$Rows", name := "holds", desc := "(II)Z" } : Jvm.MethodName)) ∈ gtbl := mg (mm_2 (List.mem_of_getElem? (i := 191) rfl)) rfl
set_option maxRecDepth 20000 in
theorem m_2_192 : (Jvm.Cond.methodLink "DrawerGloves$Reading" (49 : Nat) ({ cls := "DrawerGloves$Reading", name := "faultOfGlove", desc := "(LDrawerGloves$Rows;II)I" } : Jvm.MethodName)) ∈ gtbl := mg (mm_2 (List.mem_of_getElem? (i := 192) rfl)) rfl
set_option maxRecDepth 20000 in
theorem m_2_194 : (Jvm.Cond.instanceMethod ({ cls := "DrawerGloves$Reading", name := "faultOfGlove", desc := "(LDrawerGloves$Rows;II)I" } : Jvm.MethodName)) ∈ gtbl := mg (mm_2 (List.mem_of_getElem? (i := 194) rfl)) rfl
set_option maxRecDepth 20000 in
theorem m_2_195 : (Jvm.Cond.code ({ cls := "DrawerGloves$Reading", name := "faultOfGlove", desc := "(LDrawerGloves$Rows;II)I" } : Jvm.MethodName) prog_9_method_3_code (4 : Nat) (Option.some Jvm.ClassFile.FieldType.int)) ∈ gtbl := mg (mm_2 (List.mem_of_getElem? (i := 195) rfl)) rfl
set_option maxRecDepth 20000 in
theorem m_2_196 : (Jvm.Cond.methodLink "DrawerGloves$Reading" (52 : Nat) ({ cls := "DrawerGloves$Reading", name := "kindOf", desc := "(I)I" } : Jvm.MethodName)) ∈ gtbl := mg (mm_2 (List.mem_of_getElem? (i := 196) rfl)) rfl
set_option maxRecDepth 20000 in
theorem m_2_197 : (Jvm.Cond.static ({ cls := "DrawerGloves$Reading", name := "kindOf", desc := "(I)I" } : Jvm.MethodName)) ∈ gtbl := mg (mm_2 (List.mem_of_getElem? (i := 197) rfl)) rfl
set_option maxRecDepth 20000 in
theorem m_2_198 : (Jvm.Cond.code ({ cls := "DrawerGloves$Reading", name := "kindOf", desc := "(I)I" } : Jvm.MethodName) prog_9_method_6_code (1 : Nat) (Option.some Jvm.ClassFile.FieldType.int)) ∈ gtbl := mg (mm_2 (List.mem_of_getElem? (i := 198) rfl)) rfl
set_option maxRecDepth 20000 in
theorem m_2_199 : (Jvm.Cond.methodLink "DrawerGlovesLaw" (53 : Nat) ({ cls := "DrawerGloves", name := "drawer", desc := "(I)I" } : Jvm.MethodName)) ∈ gtbl := mg (mm_2 (List.mem_of_getElem? (i := 199) rfl)) rfl
set_option maxRecDepth 20000 in
theorem m_2_200 : (Jvm.Cond.instanceMethod ({ cls := "DrawerGloves", name := "drawer", desc := "(I)I" } : Jvm.MethodName)) ∈ gtbl := mg (mm_2 (List.mem_of_getElem? (i := 200) rfl)) rfl
set_option maxRecDepth 20000 in
theorem m_2_201 : (Jvm.Cond.selects "DrawerGloves" ({ cls := "DrawerGloves", name := "drawer", desc := "(I)I" } : Jvm.MethodName) ({ cls := "DrawerGloves", name := "drawer", desc := "(I)I" } : Jvm.MethodName)) ∈ gtbl := mg (mm_2 (List.mem_of_getElem? (i := 201) rfl)) rfl
set_option maxRecDepth 20000 in
theorem m_2_202 : (Jvm.Cond.code ({ cls := "DrawerGloves", name := "drawer", desc := "(I)I" } : Jvm.MethodName) prog_1_method_11_code (4 : Nat) (Option.some Jvm.ClassFile.FieldType.int)) ∈ gtbl := mg (mm_2 (List.mem_of_getElem? (i := 202) rfl)) rfl
set_option maxRecDepth 20000 in
theorem m_2_203 : (Jvm.Cond.methodLink "DrawerGloves" (152 : Nat) ({ cls := "DrawerGloves$Drawer", name := "fill", desc := "(LDrawerGloves$Reading;)V" } : Jvm.MethodName)) ∈ gtbl := mg (mm_2 (List.mem_of_getElem? (i := 203) rfl)) rfl
set_option maxRecDepth 20000 in
theorem m_2_204 : (Jvm.Cond.instanceMethod ({ cls := "DrawerGloves$Drawer", name := "fill", desc := "(LDrawerGloves$Reading;)V" } : Jvm.MethodName)) ∈ gtbl := mg (mm_2 (List.mem_of_getElem? (i := 204) rfl)) rfl
set_option maxRecDepth 20000 in
theorem m_2_205 : (Jvm.Cond.selects "DrawerGloves$Drawer" ({ cls := "DrawerGloves$Drawer", name := "fill", desc := "(LDrawerGloves$Reading;)V" } : Jvm.MethodName) ({ cls := "DrawerGloves$Drawer", name := "fill", desc := "(LDrawerGloves$Reading;)V" } : Jvm.MethodName)) ∈ gtbl := mg (mm_2 (List.mem_of_getElem? (i := 205) rfl)) rfl
set_option maxRecDepth 20000 in
theorem m_2_206 : (Jvm.Cond.code ({ cls := "DrawerGloves$Drawer", name := "fill", desc := "(LDrawerGloves$Reading;)V" } : Jvm.MethodName) prog_5_method_2_code (3 : Nat) (Option.none : Option Jvm.ClassFile.FieldType)) ∈ gtbl := mg (mm_2 (List.mem_of_getElem? (i := 206) rfl)) rfl
set_option maxRecDepth 20000 in
theorem m_2_207 : (Jvm.Cond.methodLink "DrawerGloves$Drawer" (58 : Nat) ({ cls := "DrawerGloves$Drawer", name := "replay", desc := "()V" } : Jvm.MethodName)) ∈ gtbl := mg (mm_2 (List.mem_of_getElem? (i := 207) rfl)) rfl
set_option maxRecDepth 20000 in
theorem m_2_208 : (Jvm.Cond.instanceMethod ({ cls := "DrawerGloves$Drawer", name := "replay", desc := "()V" } : Jvm.MethodName)) ∈ gtbl := mg (mm_2 (List.mem_of_getElem? (i := 208) rfl)) rfl
set_option maxRecDepth 20000 in
theorem m_2_209 : (Jvm.Cond.selects "DrawerGloves$Drawer" ({ cls := "DrawerGloves$Drawer", name := "replay", desc := "()V" } : Jvm.MethodName) ({ cls := "DrawerGloves$Drawer", name := "replay", desc := "()V" } : Jvm.MethodName)) ∈ gtbl := mg (mm_2 (List.mem_of_getElem? (i := 209) rfl)) rfl
set_option maxRecDepth 20000 in
theorem m_2_210 : (Jvm.Cond.code ({ cls := "DrawerGloves$Drawer", name := "replay", desc := "()V" } : Jvm.MethodName) prog_5_method_17_code (3 : Nat) (Option.none : Option Jvm.ClassFile.FieldType)) ∈ gtbl := mg (mm_2 (List.mem_of_getElem? (i := 210) rfl)) rfl
set_option maxRecDepth 20000 in
theorem m_2_211 : (Jvm.Cond.methodLink "DrawerGloves$Drawer" (98 : Nat) ({ cls := "DrawerGloves$Drawer", name := "carryOut", desc := "(III)V" } : Jvm.MethodName)) ∈ gtbl := mg (mm_2 (List.mem_of_getElem? (i := 211) rfl)) rfl
set_option maxRecDepth 20000 in
theorem m_2_213 : (Jvm.Cond.instanceMethod ({ cls := "DrawerGloves$Drawer", name := "carryOut", desc := "(III)V" } : Jvm.MethodName)) ∈ gtbl := mg (mm_2 (List.mem_of_getElem? (i := 213) rfl)) rfl
set_option maxRecDepth 20000 in
theorem m_2_214 : (Jvm.Cond.code ({ cls := "DrawerGloves$Drawer", name := "carryOut", desc := "(III)V" } : Jvm.MethodName) prog_5_method_18_code (4 : Nat) (Option.none : Option Jvm.ClassFile.FieldType)) ∈ gtbl := mg (mm_2 (List.mem_of_getElem? (i := 214) rfl)) rfl
set_option maxRecDepth 20000 in
theorem m_2_215 : (Jvm.Cond.methodLink "DrawerGloves$Drawer" (61 : Nat) ({ cls := "DrawerGloves$Drawer", name := "has", desc := "(I)Z" } : Jvm.MethodName)) ∈ gtbl := mg (mm_2 (List.mem_of_getElem? (i := 215) rfl)) rfl
set_option maxRecDepth 20000 in
theorem m_2_216 : (Jvm.Cond.instanceMethod ({ cls := "DrawerGloves$Drawer", name := "has", desc := "(I)Z" } : Jvm.MethodName)) ∈ gtbl := mg (mm_2 (List.mem_of_getElem? (i := 216) rfl)) rfl
set_option maxRecDepth 20000 in
theorem m_2_217 : (Jvm.Cond.selects "DrawerGloves$Drawer" ({ cls := "DrawerGloves$Drawer", name := "has", desc := "(I)Z" } : Jvm.MethodName) ({ cls := "DrawerGloves$Drawer", name := "has", desc := "(I)Z" } : Jvm.MethodName)) ∈ gtbl := mg (mm_2 (List.mem_of_getElem? (i := 217) rfl)) rfl
set_option maxRecDepth 20000 in
theorem m_2_218 : (Jvm.Cond.code ({ cls := "DrawerGloves$Drawer", name := "has", desc := "(I)Z" } : Jvm.MethodName) prog_5_method_3_code (2 : Nat) (Option.some Jvm.ClassFile.FieldType.boolean)) ∈ gtbl := mg (mm_2 (List.mem_of_getElem? (i := 218) rfl)) rfl
set_option maxRecDepth 20000 in
theorem m_2_219 : (Jvm.Cond.methodLink "DrawerGlovesLaw" (57 : Nat) ({ cls := "DrawerGloves", name := "glove", desc := "(II)I" } : Jvm.MethodName)) ∈ gtbl := mg (mm_2 (List.mem_of_getElem? (i := 219) rfl)) rfl
set_option maxRecDepth 20000 in
theorem m_2_220 : (Jvm.Cond.instanceMethod ({ cls := "DrawerGloves", name := "glove", desc := "(II)I" } : Jvm.MethodName)) ∈ gtbl := mg (mm_2 (List.mem_of_getElem? (i := 220) rfl)) rfl
set_option maxRecDepth 20000 in
theorem m_2_221 : (Jvm.Cond.selects "DrawerGloves" ({ cls := "DrawerGloves", name := "glove", desc := "(II)I" } : Jvm.MethodName) ({ cls := "DrawerGloves", name := "glove", desc := "(II)I" } : Jvm.MethodName)) ∈ gtbl := mg (mm_2 (List.mem_of_getElem? (i := 221) rfl)) rfl
set_option maxRecDepth 20000 in
theorem m_2_222 : (Jvm.Cond.code ({ cls := "DrawerGloves", name := "glove", desc := "(II)I" } : Jvm.MethodName) prog_1_method_12_code (3 : Nat) (Option.some Jvm.ClassFile.FieldType.int)) ∈ gtbl := mg (mm_2 (List.mem_of_getElem? (i := 222) rfl)) rfl
set_option maxRecDepth 20000 in
theorem m_2_223 : (Jvm.Cond.methodLink "DrawerGloves" (157 : Nat) ({ cls := "DrawerGloves$Drawer", name := "has", desc := "(I)Z" } : Jvm.MethodName)) ∈ gtbl := mg (mm_2 (List.mem_of_getElem? (i := 223) rfl)) rfl
set_option maxRecDepth 20000 in
theorem m_2_224 : (Jvm.Cond.methodLink "DrawerGloves" (164 : Nat) ({ cls := "DrawerGloves$Glove", name := "tell", desc := "(I)I" } : Jvm.MethodName)) ∈ gtbl := mg (mm_2 (List.mem_of_getElem? (i := 224) rfl)) rfl
set_option maxRecDepth 20000 in
theorem m_2_225 : (Jvm.Cond.instanceMethod ({ cls := "DrawerGloves$Glove", name := "tell", desc := "(I)I" } : Jvm.MethodName)) ∈ gtbl := mg (mm_2 (List.mem_of_getElem? (i := 225) rfl)) rfl
set_option maxRecDepth 20000 in
theorem m_2_226 : (Jvm.Cond.selects "DrawerGloves$Glove" ({ cls := "DrawerGloves$Glove", name := "tell", desc := "(I)I" } : Jvm.MethodName) ({ cls := "DrawerGloves$Glove", name := "tell", desc := "(I)I" } : Jvm.MethodName)) ∈ gtbl := mg (mm_2 (List.mem_of_getElem? (i := 226) rfl)) rfl
set_option maxRecDepth 20000 in
theorem m_2_227 : (Jvm.Cond.code ({ cls := "DrawerGloves$Glove", name := "tell", desc := "(I)I" } : Jvm.MethodName) prog_6_method_9_code (2 : Nat) (Option.some Jvm.ClassFile.FieldType.int)) ∈ gtbl := mg (mm_2 (List.mem_of_getElem? (i := 227) rfl)) rfl
set_option maxRecDepth 20000 in
theorem m_2_228 : (Jvm.Cond.methodLink "DrawerGloves$Glove" (51 : Nat) ({ cls := "DrawerGloves$Glove", name := "warmth", desc := "()I" } : Jvm.MethodName)) ∈ gtbl := mg (mm_2 (List.mem_of_getElem? (i := 228) rfl)) rfl
set_option maxRecDepth 20000 in
theorem m_2_229 : (Jvm.Cond.instanceMethod ({ cls := "DrawerGloves$Glove", name := "warmth", desc := "()I" } : Jvm.MethodName)) ∈ gtbl := mg (mm_2 (List.mem_of_getElem? (i := 229) rfl)) rfl
set_option maxRecDepth 20000 in
theorem m_2_230 : (Jvm.Cond.selects "DrawerGloves$Glove" ({ cls := "DrawerGloves$Glove", name := "warmth", desc := "()I" } : Jvm.MethodName) ({ cls := "DrawerGloves$Glove", name := "warmth", desc := "()I" } : Jvm.MethodName)) ∈ gtbl := mg (mm_2 (List.mem_of_getElem? (i := 230) rfl)) rfl
set_option maxRecDepth 20000 in
theorem m_2_231 : (Jvm.Cond.code ({ cls := "DrawerGloves$Glove", name := "warmth", desc := "()I" } : Jvm.MethodName) prog_6_method_5_code (2 : Nat) (Option.some Jvm.ClassFile.FieldType.int)) ∈ gtbl := mg (mm_2 (List.mem_of_getElem? (i := 231) rfl)) rfl
set_option maxRecDepth 20000 in
theorem m_2_232 : (Jvm.Cond.methodLink "DrawerGloves$Glove" (36 : Nat) ({ cls := "DrawerGloves$Glove", name := "bareWarmth", desc := "()I" } : Jvm.MethodName)) ∈ gtbl := mg (mm_2 (List.mem_of_getElem? (i := 232) rfl)) rfl
set_option maxRecDepth 20000 in
theorem m_2_233 : (Jvm.Cond.instanceMethod ({ cls := "DrawerGloves$Glove", name := "bareWarmth", desc := "()I" } : Jvm.MethodName)) ∈ gtbl := mg (mm_2 (List.mem_of_getElem? (i := 233) rfl)) rfl
set_option maxRecDepth 20000 in
theorem m_2_234 : (Jvm.Cond.selects "DrawerGloves$Glove" ({ cls := "DrawerGloves$Glove", name := "bareWarmth", desc := "()I" } : Jvm.MethodName) ({ cls := "DrawerGloves$Glove", name := "bareWarmth", desc := "()I" } : Jvm.MethodName)) ∈ gtbl := mg (mm_2 (List.mem_of_getElem? (i := 234) rfl)) rfl
set_option maxRecDepth 20000 in
theorem m_2_235 : (Jvm.Cond.code ({ cls := "DrawerGloves$Glove", name := "bareWarmth", desc := "()I" } : Jvm.MethodName) prog_6_method_4_code (1 : Nat) (Option.some Jvm.ClassFile.FieldType.int)) ∈ gtbl := mg (mm_2 (List.mem_of_getElem? (i := 235) rfl)) rfl
set_option maxRecDepth 20000 in
theorem m_2_236 : (Jvm.Cond.methodLink "DrawerGloves$Glove" (30 : Nat) ({ cls := "java/lang/Math", name := "max", desc := "(II)I" } : Jvm.MethodName)) ∈ gtbl := mg (mm_2 (List.mem_of_getElem? (i := 236) rfl)) rfl
set_option maxRecDepth 20000 in
theorem m_2_237 : (Jvm.Cond.methodLink "DrawerGlovesLaw" (61 : Nat) ({ cls := "DrawerGloves", name := "mark", desc := "(II)I" } : Jvm.MethodName)) ∈ gtbl := mg (mm_2 (List.mem_of_getElem? (i := 237) rfl)) rfl
set_option maxRecDepth 20000 in
theorem m_2_238 : (Jvm.Cond.instanceMethod ({ cls := "DrawerGloves", name := "mark", desc := "(II)I" } : Jvm.MethodName)) ∈ gtbl := mg (mm_2 (List.mem_of_getElem? (i := 238) rfl)) rfl
set_option maxRecDepth 20000 in
theorem m_2_239 : (Jvm.Cond.selects "DrawerGloves" ({ cls := "DrawerGloves", name := "mark", desc := "(II)I" } : Jvm.MethodName) ({ cls := "DrawerGloves", name := "mark", desc := "(II)I" } : Jvm.MethodName)) ∈ gtbl := mg (mm_2 (List.mem_of_getElem? (i := 239) rfl)) rfl
set_option maxRecDepth 20000 in
theorem m_3_0 : (Jvm.Cond.code ({ cls := "DrawerGloves", name := "mark", desc := "(II)I" } : Jvm.MethodName) prog_1_method_13_code (3 : Nat) (Option.some Jvm.ClassFile.FieldType.int)) ∈ gtbl := mg (mm_3 (List.mem_of_getElem? (i := 0) rfl)) rfl
set_option maxRecDepth 20000 in
theorem m_3_1 : (Jvm.Cond.methodLink "DrawerGloves" (169 : Nat) ({ cls := "DrawerGloves$Glove", name := "isOf", desc := "(I)Z" } : Jvm.MethodName)) ∈ gtbl := mg (mm_3 (List.mem_of_getElem? (i := 1) rfl)) rfl
set_option maxRecDepth 20000 in
theorem m_3_2 : (Jvm.Cond.instanceMethod ({ cls := "DrawerGloves$Glove", name := "isOf", desc := "(I)Z" } : Jvm.MethodName)) ∈ gtbl := mg (mm_3 (List.mem_of_getElem? (i := 2) rfl)) rfl
set_option maxRecDepth 20000 in
theorem m_3_3 : (Jvm.Cond.selects "DrawerGloves$Glove" ({ cls := "DrawerGloves$Glove", name := "isOf", desc := "(I)Z" } : Jvm.MethodName) ({ cls := "DrawerGloves$Glove", name := "isOf", desc := "(I)Z" } : Jvm.MethodName)) ∈ gtbl := mg (mm_3 (List.mem_of_getElem? (i := 3) rfl)) rfl
set_option maxRecDepth 20000 in
theorem m_3_4 : (Jvm.Cond.code ({ cls := "DrawerGloves$Glove", name := "isOf", desc := "(I)Z" } : Jvm.MethodName) prog_6_method_3_code (2 : Nat) (Option.some Jvm.ClassFile.FieldType.boolean)) ∈ gtbl := mg (mm_3 (List.mem_of_getElem? (i := 4) rfl)) rfl
set_option maxRecDepth 20000 in
theorem m_3_5 : (Jvm.Cond.methodLink "DrawerGloves" (172 : Nat) ({ cls := "DrawerGloves$Glove", name := "warmth", desc := "()I" } : Jvm.MethodName)) ∈ gtbl := mg (mm_3 (List.mem_of_getElem? (i := 5) rfl)) rfl
set_option maxRecDepth 20000 in
theorem m_3_6 : (Jvm.Cond.methodLink "DrawerGloves" (176 : Nat) ({ cls := "DrawerGloves$Glove", name := "bareWarmth", desc := "()I" } : Jvm.MethodName)) ∈ gtbl := mg (mm_3 (List.mem_of_getElem? (i := 6) rfl)) rfl
set_option maxRecDepth 20000 in
theorem m_3_7 : (Jvm.Cond.methodLink "DrawerGloves" (179 : Nat) ({ cls := "DrawerGloves$Drawer", name := "matesOf", desc := "(I)I" } : Jvm.MethodName)) ∈ gtbl := mg (mm_3 (List.mem_of_getElem? (i := 7) rfl)) rfl
set_option maxRecDepth 20000 in
theorem m_3_8 : (Jvm.Cond.instanceMethod ({ cls := "DrawerGloves$Drawer", name := "matesOf", desc := "(I)I" } : Jvm.MethodName)) ∈ gtbl := mg (mm_3 (List.mem_of_getElem? (i := 8) rfl)) rfl
set_option maxRecDepth 20000 in
theorem m_3_9 : (Jvm.Cond.selects "DrawerGloves$Drawer" ({ cls := "DrawerGloves$Drawer", name := "matesOf", desc := "(I)I" } : Jvm.MethodName) ({ cls := "DrawerGloves$Drawer", name := "matesOf", desc := "(I)I" } : Jvm.MethodName)) ∈ gtbl := mg (mm_3 (List.mem_of_getElem? (i := 9) rfl)) rfl
set_option maxRecDepth 20000 in
theorem m_3_10 : (Jvm.Cond.code ({ cls := "DrawerGloves$Drawer", name := "matesOf", desc := "(I)I" } : Jvm.MethodName) prog_5_method_12_code (4 : Nat) (Option.some Jvm.ClassFile.FieldType.int)) ∈ gtbl := mg (mm_3 (List.mem_of_getElem? (i := 10) rfl)) rfl
set_option maxRecDepth 20000 in
theorem m_3_11 : (Jvm.Cond.methodLink "DrawerGloves$Drawer" (68 : Nat) ({ cls := "DrawerGloves$Drawer", name := "isInside", desc := "(I)Z" } : Jvm.MethodName)) ∈ gtbl := mg (mm_3 (List.mem_of_getElem? (i := 11) rfl)) rfl
set_option maxRecDepth 20000 in
theorem m_3_12 : (Jvm.Cond.instanceMethod ({ cls := "DrawerGloves$Drawer", name := "isInside", desc := "(I)Z" } : Jvm.MethodName)) ∈ gtbl := mg (mm_3 (List.mem_of_getElem? (i := 12) rfl)) rfl
set_option maxRecDepth 20000 in
theorem m_3_13 : (Jvm.Cond.selects "DrawerGloves$Drawer" ({ cls := "DrawerGloves$Drawer", name := "isInside", desc := "(I)Z" } : Jvm.MethodName) ({ cls := "DrawerGloves$Drawer", name := "isInside", desc := "(I)Z" } : Jvm.MethodName)) ∈ gtbl := mg (mm_3 (List.mem_of_getElem? (i := 13) rfl)) rfl
set_option maxRecDepth 20000 in
theorem m_3_14 : (Jvm.Cond.code ({ cls := "DrawerGloves$Drawer", name := "isInside", desc := "(I)Z" } : Jvm.MethodName) prog_5_method_5_code (2 : Nat) (Option.some Jvm.ClassFile.FieldType.boolean)) ∈ gtbl := mg (mm_3 (List.mem_of_getElem? (i := 14) rfl)) rfl
set_option maxRecDepth 20000 in
theorem m_3_15 : (Jvm.Cond.methodLink "DrawerGloves$Drawer" (90 : Nat) ({ cls := "DrawerGloves$Glove", name := "makesPairWith", desc := "(LDrawerGloves$Glove;)Z" } : Jvm.MethodName)) ∈ gtbl := mg (mm_3 (List.mem_of_getElem? (i := 15) rfl)) rfl
set_option maxRecDepth 20000 in
theorem m_3_16 : (Jvm.Cond.instanceMethod ({ cls := "DrawerGloves$Glove", name := "makesPairWith", desc := "(LDrawerGloves$Glove;)Z" } : Jvm.MethodName)) ∈ gtbl := mg (mm_3 (List.mem_of_getElem? (i := 16) rfl)) rfl
set_option maxRecDepth 20000 in
theorem m_3_17 : (Jvm.Cond.selects "DrawerGloves$Glove" ({ cls := "DrawerGloves$Glove", name := "makesPairWith", desc := "(LDrawerGloves$Glove;)Z" } : Jvm.MethodName) ({ cls := "DrawerGloves$Glove", name := "makesPairWith", desc := "(LDrawerGloves$Glove;)Z" } : Jvm.MethodName)) ∈ gtbl := mg (mm_3 (List.mem_of_getElem? (i := 17) rfl)) rfl
set_option maxRecDepth 20000 in
theorem m_3_18 : (Jvm.Cond.code ({ cls := "DrawerGloves$Glove", name := "makesPairWith", desc := "(LDrawerGloves$Glove;)Z" } : Jvm.MethodName) prog_6_method_7_code (2 : Nat) (Option.some Jvm.ClassFile.FieldType.boolean)) ∈ gtbl := mg (mm_3 (List.mem_of_getElem? (i := 18) rfl)) rfl
set_option maxRecDepth 20000 in
theorem m_3_19 : (Jvm.Cond.methodLink "DrawerGloves$Glove" (44 : Nat) ({ cls := "DrawerGloves$Glove", name := "goesOn", desc := "(I)Z" } : Jvm.MethodName)) ∈ gtbl := mg (mm_3 (List.mem_of_getElem? (i := 19) rfl)) rfl
set_option maxRecDepth 20000 in
theorem m_3_21 : (Jvm.Cond.instanceMethod ({ cls := "DrawerGloves$Glove", name := "goesOn", desc := "(I)Z" } : Jvm.MethodName)) ∈ gtbl := mg (mm_3 (List.mem_of_getElem? (i := 21) rfl)) rfl
set_option maxRecDepth 20000 in
theorem m_3_22 : (Jvm.Cond.code ({ cls := "DrawerGloves$Glove", name := "goesOn", desc := "(I)Z" } : Jvm.MethodName) prog_6_method_6_code (2 : Nat) (Option.some Jvm.ClassFile.FieldType.boolean)) ∈ gtbl := mg (mm_3 (List.mem_of_getElem? (i := 22) rfl)) rfl
set_option maxRecDepth 20000 in
theorem m_3_23 : (Jvm.Cond.methodLink "DrawerGloves$Glove" (40 : Nat) ({ cls := "DrawerGloves$Glove", name := "isOf", desc := "(I)Z" } : Jvm.MethodName)) ∈ gtbl := mg (mm_3 (List.mem_of_getElem? (i := 23) rfl)) rfl
set_option maxRecDepth 20000 in
theorem m_3_24 : (Jvm.Cond.methodLink "DrawerGloves" (182 : Nat) ({ cls := "DrawerGloves$Drawer", name := "sameSortAs", desc := "(I)I" } : Jvm.MethodName)) ∈ gtbl := mg (mm_3 (List.mem_of_getElem? (i := 24) rfl)) rfl
set_option maxRecDepth 20000 in
theorem m_3_25 : (Jvm.Cond.instanceMethod ({ cls := "DrawerGloves$Drawer", name := "sameSortAs", desc := "(I)I" } : Jvm.MethodName)) ∈ gtbl := mg (mm_3 (List.mem_of_getElem? (i := 25) rfl)) rfl
set_option maxRecDepth 20000 in
theorem m_3_26 : (Jvm.Cond.selects "DrawerGloves$Drawer" ({ cls := "DrawerGloves$Drawer", name := "sameSortAs", desc := "(I)I" } : Jvm.MethodName) ({ cls := "DrawerGloves$Drawer", name := "sameSortAs", desc := "(I)I" } : Jvm.MethodName)) ∈ gtbl := mg (mm_3 (List.mem_of_getElem? (i := 26) rfl)) rfl
set_option maxRecDepth 20000 in
theorem m_3_27 : (Jvm.Cond.code ({ cls := "DrawerGloves$Drawer", name := "sameSortAs", desc := "(I)I" } : Jvm.MethodName) prog_5_method_13_code (4 : Nat) (Option.some Jvm.ClassFile.FieldType.int)) ∈ gtbl := mg (mm_3 (List.mem_of_getElem? (i := 27) rfl)) rfl
set_option maxRecDepth 20000 in
theorem m_3_28 : (Jvm.Cond.methodLink "DrawerGloves" (188 : Nat) ({ cls := "java/lang/Math", name := "max", desc := "(II)I" } : Jvm.MethodName)) ∈ gtbl := mg (mm_3 (List.mem_of_getElem? (i := 28) rfl)) rfl
set_option maxRecDepth 20000 in
theorem m_3_29 : (Jvm.Cond.methodLink "DrawerGloves" (193 : Nat) ({ cls := "DrawerGloves$Guess", name := "gainOfStretch", desc := "(LDrawerGloves$Drawer;I)I" } : Jvm.MethodName)) ∈ gtbl := mg (mm_3 (List.mem_of_getElem? (i := 29) rfl)) rfl
set_option maxRecDepth 20000 in
theorem m_3_30 : (Jvm.Cond.instanceMethod ({ cls := "DrawerGloves$Guess", name := "gainOfStretch", desc := "(LDrawerGloves$Drawer;I)I" } : Jvm.MethodName)) ∈ gtbl := mg (mm_3 (List.mem_of_getElem? (i := 30) rfl)) rfl
set_option maxRecDepth 20000 in
theorem m_3_31 : (Jvm.Cond.selects "DrawerGloves$Guess" ({ cls := "DrawerGloves$Guess", name := "gainOfStretch", desc := "(LDrawerGloves$Drawer;I)I" } : Jvm.MethodName) ({ cls := "DrawerGloves$Guess", name := "gainOfStretch", desc := "(LDrawerGloves$Drawer;I)I" } : Jvm.MethodName)) ∈ gtbl := mg (mm_3 (List.mem_of_getElem? (i := 31) rfl)) rfl
set_option maxRecDepth 20000 in
theorem m_3_32 : (Jvm.Cond.code ({ cls := "DrawerGloves$Guess", name := "gainOfStretch", desc := "(LDrawerGloves$Drawer;I)I" } : Jvm.MethodName) prog_7_method_10_code (5 : Nat) (Option.some Jvm.ClassFile.FieldType.int)) ∈ gtbl := mg (mm_3 (List.mem_of_getElem? (i := 32) rfl)) rfl
set_option maxRecDepth 20000 in
theorem m_3_33 : (Jvm.Cond.methodLink "DrawerGloves$Guess" (46 : Nat) ({ cls := "DrawerGloves$Glove", name := "becomeLike", desc := "(LDrawerGloves$Glove;)V" } : Jvm.MethodName)) ∈ gtbl := mg (mm_3 (List.mem_of_getElem? (i := 33) rfl)) rfl
set_option maxRecDepth 20000 in
theorem m_3_34 : (Jvm.Cond.instanceMethod ({ cls := "DrawerGloves$Glove", name := "becomeLike", desc := "(LDrawerGloves$Glove;)V" } : Jvm.MethodName)) ∈ gtbl := mg (mm_3 (List.mem_of_getElem? (i := 34) rfl)) rfl
set_option maxRecDepth 20000 in
theorem m_3_35 : (Jvm.Cond.selects "DrawerGloves$Glove" ({ cls := "DrawerGloves$Glove", name := "becomeLike", desc := "(LDrawerGloves$Glove;)V" } : Jvm.MethodName) ({ cls := "DrawerGloves$Glove", name := "becomeLike", desc := "(LDrawerGloves$Glove;)V" } : Jvm.MethodName)) ∈ gtbl := mg (mm_3 (List.mem_of_getElem? (i := 35) rfl)) rfl
set_option maxRecDepth 20000 in
theorem m_3_36 : (Jvm.Cond.code ({ cls := "DrawerGloves$Glove", name := "becomeLike", desc := "(LDrawerGloves$Glove;)V" } : Jvm.MethodName) prog_6_method_2_code (2 : Nat) (Option.none : Option Jvm.ClassFile.FieldType)) ∈ gtbl := mg (mm_3 (List.mem_of_getElem? (i := 36) rfl)) rfl
set_option maxRecDepth 20000 in
theorem m_3_37 : (Jvm.Cond.methodLink "DrawerGloves$Guess" (79 : Nat) ({ cls := "DrawerGloves$Drawer", name := "isInside", desc := "(I)Z" } : Jvm.MethodName)) ∈ gtbl := mg (mm_3 (List.mem_of_getElem? (i := 37) rfl)) rfl
set_option maxRecDepth 20000 in
theorem m_3_38 : (Jvm.Cond.methodLink "DrawerGloves$Guess" (42 : Nat) ({ cls := "DrawerGloves$Glove", name := "goodWith", desc := "(LDrawerGloves$Glove;)I" } : Jvm.MethodName)) ∈ gtbl := mg (mm_3 (List.mem_of_getElem? (i := 38) rfl)) rfl
set_option maxRecDepth 20000 in
theorem m_3_39 : (Jvm.Cond.instanceMethod ({ cls := "DrawerGloves$Glove", name := "goodWith", desc := "(LDrawerGloves$Glove;)I" } : Jvm.MethodName)) ∈ gtbl := mg (mm_3 (List.mem_of_getElem? (i := 39) rfl)) rfl
set_option maxRecDepth 20000 in
theorem m_3_40 : (Jvm.Cond.selects "DrawerGloves$Glove" ({ cls := "DrawerGloves$Glove", name := "goodWith", desc := "(LDrawerGloves$Glove;)I" } : Jvm.MethodName) ({ cls := "DrawerGloves$Glove", name := "goodWith", desc := "(LDrawerGloves$Glove;)I" } : Jvm.MethodName)) ∈ gtbl := mg (mm_3 (List.mem_of_getElem? (i := 40) rfl)) rfl
set_option maxRecDepth 20000 in
theorem m_3_41 : (Jvm.Cond.code ({ cls := "DrawerGloves$Glove", name := "goodWith", desc := "(LDrawerGloves$Glove;)I" } : Jvm.MethodName) prog_6_method_8_code (3 : Nat) (Option.some Jvm.ClassFile.FieldType.int)) ∈ gtbl := mg (mm_3 (List.mem_of_getElem? (i := 41) rfl)) rfl
set_option maxRecDepth 20000 in
theorem m_3_42 : (Jvm.Cond.methodLink "DrawerGloves$Glove" (47 : Nat) ({ cls := "DrawerGloves$Glove", name := "makesPairWith", desc := "(LDrawerGloves$Glove;)Z" } : Jvm.MethodName)) ∈ gtbl := mg (mm_3 (List.mem_of_getElem? (i := 42) rfl)) rfl
set_option maxRecDepth 20000 in
theorem m_3_43 : (Jvm.Cond.methodLink "DrawerGloves$Glove" (54 : Nat) ({ cls := "java/lang/Math", name := "abs", desc := "(I)I" } : Jvm.MethodName)) ∈ gtbl := mg (mm_3 (List.mem_of_getElem? (i := 43) rfl)) rfl
set_option maxRecDepth 20000 in
theorem m_3_44 : (Jvm.Cond.static ({ cls := "java/lang/Math", name := "abs", desc := "(I)I" } : Jvm.MethodName)) ∈ gtbl := mg (mm_3 (List.mem_of_getElem? (i := 44) rfl)) rfl
set_option maxRecDepth 20000 in
theorem m_3_45 : (Jvm.Cond.code ({ cls := "java/lang/Math", name := "abs", desc := "(I)I" } : Jvm.MethodName) prog_15_method_59_code (1 : Nat) (Option.some Jvm.ClassFile.FieldType.int)) ∈ gtbl := mg (mm_3 (List.mem_of_getElem? (i := 45) rfl)) rfl
set_option maxRecDepth 20000 in
theorem m_3_46 : (Jvm.Cond.methodLink "DrawerGlovesLaw" (65 : Nat) ({ cls := "DrawerGloves", name := "pair", desc := "(II)I" } : Jvm.MethodName)) ∈ gtbl := mg (mm_3 (List.mem_of_getElem? (i := 46) rfl)) rfl
set_option maxRecDepth 20000 in
theorem m_3_47 : (Jvm.Cond.instanceMethod ({ cls := "DrawerGloves", name := "pair", desc := "(II)I" } : Jvm.MethodName)) ∈ gtbl := mg (mm_3 (List.mem_of_getElem? (i := 47) rfl)) rfl
set_option maxRecDepth 20000 in
theorem m_3_48 : (Jvm.Cond.selects "DrawerGloves" ({ cls := "DrawerGloves", name := "pair", desc := "(II)I" } : Jvm.MethodName) ({ cls := "DrawerGloves", name := "pair", desc := "(II)I" } : Jvm.MethodName)) ∈ gtbl := mg (mm_3 (List.mem_of_getElem? (i := 48) rfl)) rfl
set_option maxRecDepth 20000 in
theorem m_3_49 : (Jvm.Cond.code ({ cls := "DrawerGloves", name := "pair", desc := "(II)I" } : Jvm.MethodName) prog_1_method_14_code (3 : Nat) (Option.some Jvm.ClassFile.FieldType.int)) ∈ gtbl := mg (mm_3 (List.mem_of_getElem? (i := 49) rfl)) rfl
set_option maxRecDepth 20000 in
theorem m_3_50 : (Jvm.Cond.methodLink "DrawerGloves" (197 : Nat) ({ cls := "DrawerGloves$Glove", name := "goodWith", desc := "(LDrawerGloves$Glove;)I" } : Jvm.MethodName)) ∈ gtbl := mg (mm_3 (List.mem_of_getElem? (i := 50) rfl)) rfl
set_option maxRecDepth 20000 in
theorem m_3_51 : (Jvm.Cond.methodLink "DrawerGlovesLaw" (69 : Nat) ({ cls := "DrawerGloves", name := "wear", desc := "(II)I" } : Jvm.MethodName)) ∈ gtbl := mg (mm_3 (List.mem_of_getElem? (i := 51) rfl)) rfl
set_option maxRecDepth 20000 in
theorem m_3_52 : (Jvm.Cond.instanceMethod ({ cls := "DrawerGloves", name := "wear", desc := "(II)I" } : Jvm.MethodName)) ∈ gtbl := mg (mm_3 (List.mem_of_getElem? (i := 52) rfl)) rfl
set_option maxRecDepth 20000 in
theorem m_3_53 : (Jvm.Cond.selects "DrawerGloves" ({ cls := "DrawerGloves", name := "wear", desc := "(II)I" } : Jvm.MethodName) ({ cls := "DrawerGloves", name := "wear", desc := "(II)I" } : Jvm.MethodName)) ∈ gtbl := mg (mm_3 (List.mem_of_getElem? (i := 53) rfl)) rfl
set_option maxRecDepth 20000 in
theorem m_3_54 : (Jvm.Cond.code ({ cls := "DrawerGloves", name := "wear", desc := "(II)I" } : Jvm.MethodName) prog_1_method_15_code (4 : Nat) (Option.some Jvm.ClassFile.FieldType.int)) ∈ gtbl := mg (mm_3 (List.mem_of_getElem? (i := 54) rfl)) rfl
set_option maxRecDepth 20000 in
theorem m_3_55 : (Jvm.Cond.methodLink "DrawerGloves" (201 : Nat) ({ cls := "DrawerGloves$Drawer", name := "isInside", desc := "(I)Z" } : Jvm.MethodName)) ∈ gtbl := mg (mm_3 (List.mem_of_getElem? (i := 55) rfl)) rfl
set_option maxRecDepth 20000 in
theorem m_3_56 : (Jvm.Cond.methodLink "DrawerGloves" (208 : Nat) ({ cls := "DrawerGloves$Deeds", name := "roomLeft", desc := "()I" } : Jvm.MethodName)) ∈ gtbl := mg (mm_3 (List.mem_of_getElem? (i := 56) rfl)) rfl
set_option maxRecDepth 20000 in
theorem m_3_57 : (Jvm.Cond.instanceMethod ({ cls := "DrawerGloves$Deeds", name := "roomLeft", desc := "()I" } : Jvm.MethodName)) ∈ gtbl := mg (mm_3 (List.mem_of_getElem? (i := 57) rfl)) rfl
set_option maxRecDepth 20000 in
theorem m_3_58 : (Jvm.Cond.selects "DrawerGloves$Deeds" ({ cls := "DrawerGloves$Deeds", name := "roomLeft", desc := "()I" } : Jvm.MethodName) ({ cls := "DrawerGloves$Deeds", name := "roomLeft", desc := "()I" } : Jvm.MethodName)) ∈ gtbl := mg (mm_3 (List.mem_of_getElem? (i := 58) rfl)) rfl
set_option maxRecDepth 20000 in
theorem m_3_59 : (Jvm.Cond.code ({ cls := "DrawerGloves$Deeds", name := "roomLeft", desc := "()I" } : Jvm.MethodName) prog_4_method_2_code (1 : Nat) (Option.some Jvm.ClassFile.FieldType.int)) ∈ gtbl := mg (mm_3 (List.mem_of_getElem? (i := 59) rfl)) rfl
set_option maxRecDepth 20000 in
theorem m_3_60 : (Jvm.Cond.methodLink "DrawerGloves" (211 : Nat) ({ cls := "DrawerGloves$Drawer", name := "act", desc := "(III)V" } : Jvm.MethodName)) ∈ gtbl := mg (mm_3 (List.mem_of_getElem? (i := 60) rfl)) rfl
set_option maxRecDepth 20000 in
theorem m_3_61 : (Jvm.Cond.instanceMethod ({ cls := "DrawerGloves$Drawer", name := "act", desc := "(III)V" } : Jvm.MethodName)) ∈ gtbl := mg (mm_3 (List.mem_of_getElem? (i := 61) rfl)) rfl
set_option maxRecDepth 20000 in
theorem m_3_62 : (Jvm.Cond.selects "DrawerGloves$Drawer" ({ cls := "DrawerGloves$Drawer", name := "act", desc := "(III)V" } : Jvm.MethodName) ({ cls := "DrawerGloves$Drawer", name := "act", desc := "(III)V" } : Jvm.MethodName)) ∈ gtbl := mg (mm_3 (List.mem_of_getElem? (i := 62) rfl)) rfl
set_option maxRecDepth 20000 in
theorem m_3_63 : (Jvm.Cond.code ({ cls := "DrawerGloves$Drawer", name := "act", desc := "(III)V" } : Jvm.MethodName) prog_5_method_14_code (4 : Nat) (Option.none : Option Jvm.ClassFile.FieldType)) ∈ gtbl := mg (mm_3 (List.mem_of_getElem? (i := 63) rfl)) rfl
set_option maxRecDepth 20000 in
theorem m_3_64 : (Jvm.Cond.methodLink "DrawerGloves$Drawer" (94 : Nat) ({ cls := "DrawerGloves$Deeds", name := "add", desc := "(III)V" } : Jvm.MethodName)) ∈ gtbl := mg (mm_3 (List.mem_of_getElem? (i := 64) rfl)) rfl
set_option maxRecDepth 20000 in
theorem m_3_65 : (Jvm.Cond.instanceMethod ({ cls := "DrawerGloves$Deeds", name := "add", desc := "(III)V" } : Jvm.MethodName)) ∈ gtbl := mg (mm_3 (List.mem_of_getElem? (i := 65) rfl)) rfl
set_option maxRecDepth 20000 in
theorem m_3_66 : (Jvm.Cond.selects "DrawerGloves$Deeds" ({ cls := "DrawerGloves$Deeds", name := "add", desc := "(III)V" } : Jvm.MethodName) ({ cls := "DrawerGloves$Deeds", name := "add", desc := "(III)V" } : Jvm.MethodName)) ∈ gtbl := mg (mm_3 (List.mem_of_getElem? (i := 66) rfl)) rfl
set_option maxRecDepth 20000 in
theorem m_3_67 : (Jvm.Cond.code ({ cls := "DrawerGloves$Deeds", name := "add", desc := "(III)V" } : Jvm.MethodName) prog_4_method_3_code (4 : Nat) (Option.none : Option Jvm.ClassFile.FieldType)) ∈ gtbl := mg (mm_3 (List.mem_of_getElem? (i := 67) rfl)) rfl
set_option maxRecDepth 20000 in
theorem m_3_68 : (Jvm.Cond.methodLink "DrawerGlovesLaw" (73 : Nat) ({ cls := "DrawerGloves", name := "lose", desc := "(I)I" } : Jvm.MethodName)) ∈ gtbl := mg (mm_3 (List.mem_of_getElem? (i := 68) rfl)) rfl
set_option maxRecDepth 20000 in
theorem m_3_69 : (Jvm.Cond.instanceMethod ({ cls := "DrawerGloves", name := "lose", desc := "(I)I" } : Jvm.MethodName)) ∈ gtbl := mg (mm_3 (List.mem_of_getElem? (i := 69) rfl)) rfl
set_option maxRecDepth 20000 in
theorem m_3_70 : (Jvm.Cond.selects "DrawerGloves" ({ cls := "DrawerGloves", name := "lose", desc := "(I)I" } : Jvm.MethodName) ({ cls := "DrawerGloves", name := "lose", desc := "(I)I" } : Jvm.MethodName)) ∈ gtbl := mg (mm_3 (List.mem_of_getElem? (i := 70) rfl)) rfl
set_option maxRecDepth 20000 in
theorem m_3_71 : (Jvm.Cond.code ({ cls := "DrawerGloves", name := "lose", desc := "(I)I" } : Jvm.MethodName) prog_1_method_16_code (2 : Nat) (Option.some Jvm.ClassFile.FieldType.int)) ∈ gtbl := mg (mm_3 (List.mem_of_getElem? (i := 71) rfl)) rfl
set_option maxRecDepth 20000 in
theorem m_3_72 : (Jvm.Cond.methodLink "DrawerGloves" (214 : Nat) ({ cls := "DrawerGloves$Drawer", name := "canBeLost", desc := "(I)Z" } : Jvm.MethodName)) ∈ gtbl := mg (mm_3 (List.mem_of_getElem? (i := 72) rfl)) rfl
set_option maxRecDepth 20000 in
theorem m_3_73 : (Jvm.Cond.instanceMethod ({ cls := "DrawerGloves$Drawer", name := "canBeLost", desc := "(I)Z" } : Jvm.MethodName)) ∈ gtbl := mg (mm_3 (List.mem_of_getElem? (i := 73) rfl)) rfl
set_option maxRecDepth 20000 in
theorem m_3_74 : (Jvm.Cond.selects "DrawerGloves$Drawer" ({ cls := "DrawerGloves$Drawer", name := "canBeLost", desc := "(I)Z" } : Jvm.MethodName) ({ cls := "DrawerGloves$Drawer", name := "canBeLost", desc := "(I)Z" } : Jvm.MethodName)) ∈ gtbl := mg (mm_3 (List.mem_of_getElem? (i := 74) rfl)) rfl
set_option maxRecDepth 20000 in
theorem m_3_75 : (Jvm.Cond.code ({ cls := "DrawerGloves$Drawer", name := "canBeLost", desc := "(I)Z" } : Jvm.MethodName) prog_5_method_6_code (2 : Nat) (Option.some Jvm.ClassFile.FieldType.boolean)) ∈ gtbl := mg (mm_3 (List.mem_of_getElem? (i := 75) rfl)) rfl
set_option maxRecDepth 20000 in
theorem m_3_76 : (Jvm.Cond.methodLink "DrawerGloves" (217 : Nat) ({ cls := "DrawerGloves$Drawer", name := "howManyInside", desc := "()I" } : Jvm.MethodName)) ∈ gtbl := mg (mm_3 (List.mem_of_getElem? (i := 76) rfl)) rfl
set_option maxRecDepth 20000 in
theorem m_3_77 : (Jvm.Cond.instanceMethod ({ cls := "DrawerGloves$Drawer", name := "howManyInside", desc := "()I" } : Jvm.MethodName)) ∈ gtbl := mg (mm_3 (List.mem_of_getElem? (i := 77) rfl)) rfl
set_option maxRecDepth 20000 in
theorem m_3_78 : (Jvm.Cond.selects "DrawerGloves$Drawer" ({ cls := "DrawerGloves$Drawer", name := "howManyInside", desc := "()I" } : Jvm.MethodName) ({ cls := "DrawerGloves$Drawer", name := "howManyInside", desc := "()I" } : Jvm.MethodName)) ∈ gtbl := mg (mm_3 (List.mem_of_getElem? (i := 78) rfl)) rfl
set_option maxRecDepth 20000 in
theorem m_3_79 : (Jvm.Cond.code ({ cls := "DrawerGloves$Drawer", name := "howManyInside", desc := "()I" } : Jvm.MethodName) prog_5_method_8_code (1 : Nat) (Option.some Jvm.ClassFile.FieldType.int)) ∈ gtbl := mg (mm_3 (List.mem_of_getElem? (i := 79) rfl)) rfl
set_option maxRecDepth 20000 in
theorem m_3_80 : (Jvm.Cond.methodLink "DrawerGloves$Drawer" (71 : Nat) ({ cls := "DrawerGloves$Drawer", name := "setOf", desc := "(I)I" } : Jvm.MethodName)) ∈ gtbl := mg (mm_3 (List.mem_of_getElem? (i := 80) rfl)) rfl
set_option maxRecDepth 20000 in
theorem m_3_81 : (Jvm.Cond.instanceMethod ({ cls := "DrawerGloves$Drawer", name := "setOf", desc := "(I)I" } : Jvm.MethodName)) ∈ gtbl := mg (mm_3 (List.mem_of_getElem? (i := 81) rfl)) rfl
set_option maxRecDepth 20000 in
theorem m_3_82 : (Jvm.Cond.selects "DrawerGloves$Drawer" ({ cls := "DrawerGloves$Drawer", name := "setOf", desc := "(I)I" } : Jvm.MethodName) ({ cls := "DrawerGloves$Drawer", name := "setOf", desc := "(I)I" } : Jvm.MethodName)) ∈ gtbl := mg (mm_3 (List.mem_of_getElem? (i := 82) rfl)) rfl
set_option maxRecDepth 20000 in
theorem m_3_83 : (Jvm.Cond.code ({ cls := "DrawerGloves$Drawer", name := "setOf", desc := "(I)I" } : Jvm.MethodName) prog_5_method_7_code (4 : Nat) (Option.some Jvm.ClassFile.FieldType.int)) ∈ gtbl := mg (mm_3 (List.mem_of_getElem? (i := 83) rfl)) rfl
set_option maxRecDepth 20000 in
theorem m_3_84 : (Jvm.Cond.methodLink "DrawerGloves$Drawer" (75 : Nat) ({ cls := "java/lang/Integer", name := "bitCount", desc := "(I)I" } : Jvm.MethodName)) ∈ gtbl := mg (mm_3 (List.mem_of_getElem? (i := 84) rfl)) rfl
set_option maxRecDepth 20000 in
theorem m_3_85 : (Jvm.Cond.static ({ cls := "java/lang/Integer", name := "bitCount", desc := "(I)I" } : Jvm.MethodName)) ∈ gtbl := mg (mm_3 (List.mem_of_getElem? (i := 85) rfl)) rfl
set_option maxRecDepth 20000 in
theorem m_3_86 : (Jvm.Cond.code ({ cls := "java/lang/Integer", name := "bitCount", desc := "(I)I" } : Jvm.MethodName) prog_14_method_49_code (1 : Nat) (Option.some Jvm.ClassFile.FieldType.int)) ∈ gtbl := mg (mm_3 (List.mem_of_getElem? (i := 86) rfl)) rfl
set_option maxRecDepth 20000 in
theorem m_3_87 : (Jvm.Cond.constant "java/lang/Integer" (265 : Nat) (1431655765 : Int32)) ∈ gtbl := mg (mm_3 (List.mem_of_getElem? (i := 87) rfl)) rfl
set_option maxRecDepth 20000 in
theorem m_3_88 : (Jvm.Cond.constant "java/lang/Integer" (266 : Nat) (858993459 : Int32)) ∈ gtbl := mg (mm_3 (List.mem_of_getElem? (i := 88) rfl)) rfl
set_option maxRecDepth 20000 in
theorem m_3_89 : (Jvm.Cond.constant "java/lang/Integer" (267 : Nat) (252645135 : Int32)) ∈ gtbl := mg (mm_3 (List.mem_of_getElem? (i := 89) rfl)) rfl
set_option maxRecDepth 20000 in
theorem m_3_90 : (Jvm.Cond.methodLink "DrawerGlovesLaw" (77 : Nat) ({ cls := "DrawerGloves", name := "back", desc := "(I)I" } : Jvm.MethodName)) ∈ gtbl := mg (mm_3 (List.mem_of_getElem? (i := 90) rfl)) rfl
set_option maxRecDepth 20000 in
theorem m_3_91 : (Jvm.Cond.instanceMethod ({ cls := "DrawerGloves", name := "back", desc := "(I)I" } : Jvm.MethodName)) ∈ gtbl := mg (mm_3 (List.mem_of_getElem? (i := 91) rfl)) rfl
set_option maxRecDepth 20000 in
theorem m_3_92 : (Jvm.Cond.selects "DrawerGloves" ({ cls := "DrawerGloves", name := "back", desc := "(I)I" } : Jvm.MethodName) ({ cls := "DrawerGloves", name := "back", desc := "(I)I" } : Jvm.MethodName)) ∈ gtbl := mg (mm_3 (List.mem_of_getElem? (i := 92) rfl)) rfl
set_option maxRecDepth 20000 in
theorem m_3_93 : (Jvm.Cond.code ({ cls := "DrawerGloves", name := "back", desc := "(I)I" } : Jvm.MethodName) prog_1_method_17_code (2 : Nat) (Option.some Jvm.ClassFile.FieldType.int)) ∈ gtbl := mg (mm_3 (List.mem_of_getElem? (i := 93) rfl)) rfl
set_option maxRecDepth 20000 in
theorem m_3_94 : (Jvm.Cond.methodLink "DrawerGloves" (223 : Nat) ({ cls := "DrawerGloves$Drawer", name := "hasRoom", desc := "()Z" } : Jvm.MethodName)) ∈ gtbl := mg (mm_3 (List.mem_of_getElem? (i := 94) rfl)) rfl
set_option maxRecDepth 20000 in
theorem m_3_95 : (Jvm.Cond.instanceMethod ({ cls := "DrawerGloves$Drawer", name := "hasRoom", desc := "()Z" } : Jvm.MethodName)) ∈ gtbl := mg (mm_3 (List.mem_of_getElem? (i := 95) rfl)) rfl
set_option maxRecDepth 20000 in
theorem m_3_96 : (Jvm.Cond.selects "DrawerGloves$Drawer" ({ cls := "DrawerGloves$Drawer", name := "hasRoom", desc := "()Z" } : Jvm.MethodName) ({ cls := "DrawerGloves$Drawer", name := "hasRoom", desc := "()Z" } : Jvm.MethodName)) ∈ gtbl := mg (mm_3 (List.mem_of_getElem? (i := 96) rfl)) rfl
set_option maxRecDepth 20000 in
theorem m_3_97 : (Jvm.Cond.code ({ cls := "DrawerGloves$Drawer", name := "hasRoom", desc := "()Z" } : Jvm.MethodName) prog_5_method_9_code (1 : Nat) (Option.some Jvm.ClassFile.FieldType.boolean)) ∈ gtbl := mg (mm_3 (List.mem_of_getElem? (i := 97) rfl)) rfl
set_option maxRecDepth 20000 in
theorem m_3_98 : (Jvm.Cond.methodLink "DrawerGloves$Drawer" (80 : Nat) ({ cls := "DrawerGloves$Drawer", name := "howManyInside", desc := "()I" } : Jvm.MethodName)) ∈ gtbl := mg (mm_3 (List.mem_of_getElem? (i := 98) rfl)) rfl
set_option maxRecDepth 20000 in
theorem m_3_99 : (Jvm.Cond.methodLink "DrawerGlovesLaw" (81 : Nat) ({ cls := "DrawerGloves", name := "out", desc := "(I)I" } : Jvm.MethodName)) ∈ gtbl := mg (mm_3 (List.mem_of_getElem? (i := 99) rfl)) rfl
set_option maxRecDepth 20000 in
theorem m_3_100 : (Jvm.Cond.instanceMethod ({ cls := "DrawerGloves", name := "out", desc := "(I)I" } : Jvm.MethodName)) ∈ gtbl := mg (mm_3 (List.mem_of_getElem? (i := 100) rfl)) rfl
set_option maxRecDepth 20000 in
theorem m_3_101 : (Jvm.Cond.selects "DrawerGloves" ({ cls := "DrawerGloves", name := "out", desc := "(I)I" } : Jvm.MethodName) ({ cls := "DrawerGloves", name := "out", desc := "(I)I" } : Jvm.MethodName)) ∈ gtbl := mg (mm_3 (List.mem_of_getElem? (i := 101) rfl)) rfl
set_option maxRecDepth 20000 in
theorem m_3_102 : (Jvm.Cond.code ({ cls := "DrawerGloves", name := "out", desc := "(I)I" } : Jvm.MethodName) prog_1_method_18_code (2 : Nat) (Option.some Jvm.ClassFile.FieldType.int)) ∈ gtbl := mg (mm_3 (List.mem_of_getElem? (i := 102) rfl)) rfl
set_option maxRecDepth 20000 in
theorem m_3_103 : (Jvm.Cond.methodLink "DrawerGlovesLaw" (85 : Nat) ({ cls := "DrawerGloves", name := "undo", desc := "(I)I" } : Jvm.MethodName)) ∈ gtbl := mg (mm_3 (List.mem_of_getElem? (i := 103) rfl)) rfl
set_option maxRecDepth 20000 in
theorem m_3_104 : (Jvm.Cond.instanceMethod ({ cls := "DrawerGloves", name := "undo", desc := "(I)I" } : Jvm.MethodName)) ∈ gtbl := mg (mm_3 (List.mem_of_getElem? (i := 104) rfl)) rfl
set_option maxRecDepth 20000 in
theorem m_3_105 : (Jvm.Cond.selects "DrawerGloves" ({ cls := "DrawerGloves", name := "undo", desc := "(I)I" } : Jvm.MethodName) ({ cls := "DrawerGloves", name := "undo", desc := "(I)I" } : Jvm.MethodName)) ∈ gtbl := mg (mm_3 (List.mem_of_getElem? (i := 105) rfl)) rfl
set_option maxRecDepth 20000 in
theorem m_3_106 : (Jvm.Cond.code ({ cls := "DrawerGloves", name := "undo", desc := "(I)I" } : Jvm.MethodName) prog_1_method_19_code (3 : Nat) (Option.some Jvm.ClassFile.FieldType.int)) ∈ gtbl := mg (mm_3 (List.mem_of_getElem? (i := 106) rfl)) rfl
set_option maxRecDepth 20000 in
theorem m_3_107 : (Jvm.Cond.methodLink "DrawerGloves" (227 : Nat) ({ cls := "DrawerGloves$Drawer", name := "replay", desc := "()V" } : Jvm.MethodName)) ∈ gtbl := mg (mm_3 (List.mem_of_getElem? (i := 107) rfl)) rfl
set_option maxRecDepth 20000 in
theorem m_3_108 : (Jvm.Cond.methodLink "DrawerGlovesLaw" (89 : Nat) ({ cls := "DrawerGloves", name := "keep", desc := "(I)I" } : Jvm.MethodName)) ∈ gtbl := mg (mm_3 (List.mem_of_getElem? (i := 108) rfl)) rfl
set_option maxRecDepth 20000 in
theorem m_3_109 : (Jvm.Cond.instanceMethod ({ cls := "DrawerGloves", name := "keep", desc := "(I)I" } : Jvm.MethodName)) ∈ gtbl := mg (mm_3 (List.mem_of_getElem? (i := 109) rfl)) rfl
set_option maxRecDepth 20000 in
theorem m_3_110 : (Jvm.Cond.selects "DrawerGloves" ({ cls := "DrawerGloves", name := "keep", desc := "(I)I" } : Jvm.MethodName) ({ cls := "DrawerGloves", name := "keep", desc := "(I)I" } : Jvm.MethodName)) ∈ gtbl := mg (mm_3 (List.mem_of_getElem? (i := 110) rfl)) rfl
set_option maxRecDepth 20000 in
theorem m_3_111 : (Jvm.Cond.code ({ cls := "DrawerGloves", name := "keep", desc := "(I)I" } : Jvm.MethodName) prog_1_method_20_code (2 : Nat) (Option.some Jvm.ClassFile.FieldType.int)) ∈ gtbl := mg (mm_3 (List.mem_of_getElem? (i := 111) rfl)) rfl
set_option maxRecDepth 20000 in
theorem m_3_112 : (Jvm.Cond.methodLink "DrawerGloves" (230 : Nat) ({ cls := "DrawerGloves$Deeds", name := "becomeLike", desc := "(LDrawerGloves$Deeds;)V" } : Jvm.MethodName)) ∈ gtbl := mg (mm_3 (List.mem_of_getElem? (i := 112) rfl)) rfl
set_option maxRecDepth 20000 in
theorem m_3_113 : (Jvm.Cond.instanceMethod ({ cls := "DrawerGloves$Deeds", name := "becomeLike", desc := "(LDrawerGloves$Deeds;)V" } : Jvm.MethodName)) ∈ gtbl := mg (mm_3 (List.mem_of_getElem? (i := 113) rfl)) rfl
set_option maxRecDepth 20000 in
theorem m_3_114 : (Jvm.Cond.selects "DrawerGloves$Deeds" ({ cls := "DrawerGloves$Deeds", name := "becomeLike", desc := "(LDrawerGloves$Deeds;)V" } : Jvm.MethodName) ({ cls := "DrawerGloves$Deeds", name := "becomeLike", desc := "(LDrawerGloves$Deeds;)V" } : Jvm.MethodName)) ∈ gtbl := mg (mm_3 (List.mem_of_getElem? (i := 114) rfl)) rfl
set_option maxRecDepth 20000 in
theorem m_3_115 : (Jvm.Cond.code ({ cls := "DrawerGloves$Deeds", name := "becomeLike", desc := "(LDrawerGloves$Deeds;)V" } : Jvm.MethodName) prog_4_method_4_code (3 : Nat) (Option.none : Option Jvm.ClassFile.FieldType)) ∈ gtbl := mg (mm_3 (List.mem_of_getElem? (i := 115) rfl)) rfl
set_option maxRecDepth 20000 in
theorem m_3_116 : (Jvm.Cond.methodLink "DrawerGlovesLaw" (93 : Nat) ({ cls := "DrawerGloves", name := "on", desc := "(I)I" } : Jvm.MethodName)) ∈ gtbl := mg (mm_3 (List.mem_of_getElem? (i := 116) rfl)) rfl
set_option maxRecDepth 20000 in
theorem m_3_117 : (Jvm.Cond.instanceMethod ({ cls := "DrawerGloves", name := "on", desc := "(I)I" } : Jvm.MethodName)) ∈ gtbl := mg (mm_3 (List.mem_of_getElem? (i := 117) rfl)) rfl
set_option maxRecDepth 20000 in
theorem m_3_118 : (Jvm.Cond.selects "DrawerGloves" ({ cls := "DrawerGloves", name := "on", desc := "(I)I" } : Jvm.MethodName) ({ cls := "DrawerGloves", name := "on", desc := "(I)I" } : Jvm.MethodName)) ∈ gtbl := mg (mm_3 (List.mem_of_getElem? (i := 118) rfl)) rfl
set_option maxRecDepth 20000 in
theorem m_3_119 : (Jvm.Cond.code ({ cls := "DrawerGloves", name := "on", desc := "(I)I" } : Jvm.MethodName) prog_1_method_21_code (2 : Nat) (Option.some Jvm.ClassFile.FieldType.int)) ∈ gtbl := mg (mm_3 (List.mem_of_getElem? (i := 119) rfl)) rfl
set_option maxRecDepth 20000 in
theorem m_3_120 : (Jvm.Cond.methodLink "DrawerGlovesLaw" (97 : Nat) ({ cls := "DrawerGloves", name := "good", desc := "(I)I" } : Jvm.MethodName)) ∈ gtbl := mg (mm_3 (List.mem_of_getElem? (i := 120) rfl)) rfl
set_option maxRecDepth 20000 in
theorem m_3_121 : (Jvm.Cond.instanceMethod ({ cls := "DrawerGloves", name := "good", desc := "(I)I" } : Jvm.MethodName)) ∈ gtbl := mg (mm_3 (List.mem_of_getElem? (i := 121) rfl)) rfl
set_option maxRecDepth 20000 in
theorem m_3_122 : (Jvm.Cond.selects "DrawerGloves" ({ cls := "DrawerGloves", name := "good", desc := "(I)I" } : Jvm.MethodName) ({ cls := "DrawerGloves", name := "good", desc := "(I)I" } : Jvm.MethodName)) ∈ gtbl := mg (mm_3 (List.mem_of_getElem? (i := 122) rfl)) rfl
set_option maxRecDepth 20000 in
theorem m_3_123 : (Jvm.Cond.code ({ cls := "DrawerGloves", name := "good", desc := "(I)I" } : Jvm.MethodName) prog_1_method_22_code (2 : Nat) (Option.some Jvm.ClassFile.FieldType.int)) ∈ gtbl := mg (mm_3 (List.mem_of_getElem? (i := 123) rfl)) rfl
set_option maxRecDepth 20000 in
theorem m_3_124 : (Jvm.Cond.methodLink "DrawerGloves" (234 : Nat) ({ cls := "DrawerGloves$Drawer", name := "isSet", desc := "(I)Z" } : Jvm.MethodName)) ∈ gtbl := mg (mm_3 (List.mem_of_getElem? (i := 124) rfl)) rfl
set_option maxRecDepth 20000 in
theorem m_3_125 : (Jvm.Cond.instanceMethod ({ cls := "DrawerGloves$Drawer", name := "isSet", desc := "(I)Z" } : Jvm.MethodName)) ∈ gtbl := mg (mm_3 (List.mem_of_getElem? (i := 125) rfl)) rfl
set_option maxRecDepth 20000 in
theorem m_3_126 : (Jvm.Cond.selects "DrawerGloves$Drawer" ({ cls := "DrawerGloves$Drawer", name := "isSet", desc := "(I)Z" } : Jvm.MethodName) ({ cls := "DrawerGloves$Drawer", name := "isSet", desc := "(I)Z" } : Jvm.MethodName)) ∈ gtbl := mg (mm_3 (List.mem_of_getElem? (i := 126) rfl)) rfl
set_option maxRecDepth 20000 in
theorem m_3_127 : (Jvm.Cond.code ({ cls := "DrawerGloves$Drawer", name := "isSet", desc := "(I)Z" } : Jvm.MethodName) prog_5_method_4_code (2 : Nat) (Option.some Jvm.ClassFile.FieldType.boolean)) ∈ gtbl := mg (mm_3 (List.mem_of_getElem? (i := 127) rfl)) rfl
set_option maxRecDepth 20000 in
theorem m_3_128 : (Jvm.Cond.methodLink "DrawerGloves" (237 : Nat) ({ cls := "DrawerGloves$Makings", name := "weigh", desc := "(LDrawerGloves$Drawer;)V" } : Jvm.MethodName)) ∈ gtbl := mg (mm_3 (List.mem_of_getElem? (i := 128) rfl)) rfl
set_option maxRecDepth 20000 in
theorem m_3_129 : (Jvm.Cond.instanceMethod ({ cls := "DrawerGloves$Makings", name := "weigh", desc := "(LDrawerGloves$Drawer;)V" } : Jvm.MethodName)) ∈ gtbl := mg (mm_3 (List.mem_of_getElem? (i := 129) rfl)) rfl
set_option maxRecDepth 20000 in
theorem m_3_130 : (Jvm.Cond.selects "DrawerGloves$Makings" ({ cls := "DrawerGloves$Makings", name := "weigh", desc := "(LDrawerGloves$Drawer;)V" } : Jvm.MethodName) ({ cls := "DrawerGloves$Makings", name := "weigh", desc := "(LDrawerGloves$Drawer;)V" } : Jvm.MethodName)) ∈ gtbl := mg (mm_3 (List.mem_of_getElem? (i := 130) rfl)) rfl
set_option maxRecDepth 20000 in
theorem m_3_131 : (Jvm.Cond.code ({ cls := "DrawerGloves$Makings", name := "weigh", desc := "(LDrawerGloves$Drawer;)V" } : Jvm.MethodName) prog_8_method_2_code (4 : Nat) (Option.none : Option Jvm.ClassFile.FieldType)) ∈ gtbl := mg (mm_3 (List.mem_of_getElem? (i := 131) rfl)) rfl
set_option maxRecDepth 20000 in
theorem m_3_132 : (Jvm.Cond.methodLink "DrawerGloves$Makings" (34 : Nat) ({ cls := "DrawerGloves$Glove", name := "goodWith", desc := "(LDrawerGloves$Glove;)I" } : Jvm.MethodName)) ∈ gtbl := mg (mm_3 (List.mem_of_getElem? (i := 132) rfl)) rfl
set_option maxRecDepth 20000 in
theorem m_3_133 : (Jvm.Cond.methodLink "DrawerGloves$Makings" (40 : Nat) ({ cls := "DrawerGloves$Makings", name := "weighWith", desc := "(II)V" } : Jvm.MethodName)) ∈ gtbl := mg (mm_3 (List.mem_of_getElem? (i := 133) rfl)) rfl
set_option maxRecDepth 20000 in
theorem m_3_135 : (Jvm.Cond.instanceMethod ({ cls := "DrawerGloves$Makings", name := "weighWith", desc := "(II)V" } : Jvm.MethodName)) ∈ gtbl := mg (mm_3 (List.mem_of_getElem? (i := 135) rfl)) rfl
set_option maxRecDepth 20000 in
theorem m_3_136 : (Jvm.Cond.code ({ cls := "DrawerGloves$Makings", name := "weighWith", desc := "(II)V" } : Jvm.MethodName) prog_8_method_3_code (7 : Nat) (Option.none : Option Jvm.ClassFile.FieldType)) ∈ gtbl := mg (mm_3 (List.mem_of_getElem? (i := 136) rfl)) rfl
set_option maxRecDepth 20000 in
theorem m_3_137 : (Jvm.Cond.methodLink "DrawerGloves$Makings" (44 : Nat) ({ cls := "java/lang/Math", name := "max", desc := "(II)I" } : Jvm.MethodName)) ∈ gtbl := mg (mm_3 (List.mem_of_getElem? (i := 137) rfl)) rfl
set_option maxRecDepth 20000 in
theorem m_3_138 : (Jvm.Cond.methodLink "DrawerGlovesLaw" (101 : Nat) ({ cls := "DrawerGloves", name := "pairs", desc := "(I)I" } : Jvm.MethodName)) ∈ gtbl := mg (mm_3 (List.mem_of_getElem? (i := 138) rfl)) rfl
set_option maxRecDepth 20000 in
theorem m_3_139 : (Jvm.Cond.instanceMethod ({ cls := "DrawerGloves", name := "pairs", desc := "(I)I" } : Jvm.MethodName)) ∈ gtbl := mg (mm_3 (List.mem_of_getElem? (i := 139) rfl)) rfl
set_option maxRecDepth 20000 in
theorem m_3_140 : (Jvm.Cond.selects "DrawerGloves" ({ cls := "DrawerGloves", name := "pairs", desc := "(I)I" } : Jvm.MethodName) ({ cls := "DrawerGloves", name := "pairs", desc := "(I)I" } : Jvm.MethodName)) ∈ gtbl := mg (mm_3 (List.mem_of_getElem? (i := 140) rfl)) rfl
set_option maxRecDepth 20000 in
theorem m_3_141 : (Jvm.Cond.code ({ cls := "DrawerGloves", name := "pairs", desc := "(I)I" } : Jvm.MethodName) prog_1_method_23_code (2 : Nat) (Option.some Jvm.ClassFile.FieldType.int)) ∈ gtbl := mg (mm_3 (List.mem_of_getElem? (i := 141) rfl)) rfl
set_option maxRecDepth 20000 in
theorem m_3_142 : (Jvm.Cond.methodLink "DrawerGloves" (247 : Nat) ({ cls := "DrawerGloves$Makings", name := "partTo", desc := "(LDrawerGloves$Drawer;LDrawerGloves$Rows;I)V" } : Jvm.MethodName)) ∈ gtbl := mg (mm_3 (List.mem_of_getElem? (i := 142) rfl)) rfl
set_option maxRecDepth 20000 in
theorem m_3_143 : (Jvm.Cond.instanceMethod ({ cls := "DrawerGloves$Makings", name := "partTo", desc := "(LDrawerGloves$Drawer;LDrawerGloves$Rows;I)V" } : Jvm.MethodName)) ∈ gtbl := mg (mm_3 (List.mem_of_getElem? (i := 143) rfl)) rfl
set_option maxRecDepth 20000 in
theorem m_3_144 : (Jvm.Cond.selects "DrawerGloves$Makings" ({ cls := "DrawerGloves$Makings", name := "partTo", desc := "(LDrawerGloves$Drawer;LDrawerGloves$Rows;I)V" } : Jvm.MethodName) ({ cls := "DrawerGloves$Makings", name := "partTo", desc := "(LDrawerGloves$Drawer;LDrawerGloves$Rows;I)V" } : Jvm.MethodName)) ∈ gtbl := mg (mm_3 (List.mem_of_getElem? (i := 144) rfl)) rfl
set_option maxRecDepth 20000 in
theorem m_3_145 : (Jvm.Cond.code ({ cls := "DrawerGloves$Makings", name := "partTo", desc := "(LDrawerGloves$Drawer;LDrawerGloves$Rows;I)V" } : Jvm.MethodName) prog_8_method_4_code (7 : Nat) (Option.none : Option Jvm.ClassFile.FieldType)) ∈ gtbl := mg (mm_3 (List.mem_of_getElem? (i := 145) rfl)) rfl
set_option maxRecDepth 20000 in
theorem m_3_146 : (Jvm.Cond.methodLink "DrawerGloves$Makings" (50 : Nat) ({ cls := "DrawerGloves$Rows", name := "begin", desc := "(II)V" } : Jvm.MethodName)) ∈ gtbl := mg (mm_3 (List.mem_of_getElem? (i := 146) rfl)) rfl
set_option maxRecDepth 20000 in
theorem m_3_147 : (Jvm.Cond.methodLink "DrawerGloves$Makings" (55 : Nat) ({ cls := "DrawerGloves$Rows", name := "write", desc := "(III)V" } : Jvm.MethodName)) ∈ gtbl := mg (mm_3 (List.mem_of_getElem? (i := 147) rfl)) rfl
set_option maxRecDepth 20000 in
theorem m_3_148 : (Jvm.Cond.methodLink "DrawerGloves$Makings" (59 : Nat) ({ cls := "DrawerGloves$Drawer", name := "setOf", desc := "(I)I" } : Jvm.MethodName)) ∈ gtbl := mg (mm_3 (List.mem_of_getElem? (i := 148) rfl)) rfl
set_option maxRecDepth 20000 in
theorem m_3_149 : (Jvm.Cond.methodLink "DrawerGloves$Makings" (63 : Nat) ({ cls := "DrawerGloves$Makings", name := "firstMate", desc := "(LDrawerGloves$Drawer;II)I" } : Jvm.MethodName)) ∈ gtbl := mg (mm_3 (List.mem_of_getElem? (i := 149) rfl)) rfl
set_option maxRecDepth 20000 in
theorem m_3_151 : (Jvm.Cond.instanceMethod ({ cls := "DrawerGloves$Makings", name := "firstMate", desc := "(LDrawerGloves$Drawer;II)I" } : Jvm.MethodName)) ∈ gtbl := mg (mm_3 (List.mem_of_getElem? (i := 151) rfl)) rfl
set_option maxRecDepth 20000 in
theorem m_3_152 : (Jvm.Cond.code ({ cls := "DrawerGloves$Makings", name := "firstMate", desc := "(LDrawerGloves$Drawer;II)I" } : Jvm.MethodName) prog_8_method_5_code (7 : Nat) (Option.some Jvm.ClassFile.FieldType.int)) ∈ gtbl := mg (mm_3 (List.mem_of_getElem? (i := 152) rfl)) rfl
set_option maxRecDepth 20000 in
theorem m_3_153 : (Jvm.Cond.methodLink "DrawerGloves" (251 : Nat) ({ cls := "DrawerGloves$Drawer", name := "setOf", desc := "(I)I" } : Jvm.MethodName)) ∈ gtbl := mg (mm_3 (List.mem_of_getElem? (i := 153) rfl)) rfl
set_option maxRecDepth 20000 in
theorem m_3_154 : (Jvm.Cond.methodLink "DrawerGlovesLaw" (105 : Nat) ({ cls := "DrawerGloves", name := "missed", desc := "()I" } : Jvm.MethodName)) ∈ gtbl := mg (mm_3 (List.mem_of_getElem? (i := 154) rfl)) rfl
set_option maxRecDepth 20000 in
theorem m_3_155 : (Jvm.Cond.instanceMethod ({ cls := "DrawerGloves", name := "missed", desc := "()I" } : Jvm.MethodName)) ∈ gtbl := mg (mm_3 (List.mem_of_getElem? (i := 155) rfl)) rfl
set_option maxRecDepth 20000 in
theorem m_3_156 : (Jvm.Cond.selects "DrawerGloves" ({ cls := "DrawerGloves", name := "missed", desc := "()I" } : Jvm.MethodName) ({ cls := "DrawerGloves", name := "missed", desc := "()I" } : Jvm.MethodName)) ∈ gtbl := mg (mm_3 (List.mem_of_getElem? (i := 156) rfl)) rfl
set_option maxRecDepth 20000 in
theorem m_3_157 : (Jvm.Cond.code ({ cls := "DrawerGloves", name := "missed", desc := "()I" } : Jvm.MethodName) prog_1_method_24_code (1 : Nat) (Option.some Jvm.ClassFile.FieldType.int)) ∈ gtbl := mg (mm_3 (List.mem_of_getElem? (i := 157) rfl)) rfl
set_option maxRecDepth 20000 in
theorem m_3_158 : (Jvm.Cond.methodLink "DrawerGloves" (254 : Nat) ({ cls := "DrawerGloves", name := "greatestChange", desc := "(I)I" } : Jvm.MethodName)) ∈ gtbl := mg (mm_3 (List.mem_of_getElem? (i := 158) rfl)) rfl
set_option maxRecDepth 20000 in
theorem m_3_160 : (Jvm.Cond.instanceMethod ({ cls := "DrawerGloves", name := "greatestChange", desc := "(I)I" } : Jvm.MethodName)) ∈ gtbl := mg (mm_3 (List.mem_of_getElem? (i := 160) rfl)) rfl
set_option maxRecDepth 20000 in
theorem m_3_161 : (Jvm.Cond.code ({ cls := "DrawerGloves", name := "greatestChange", desc := "(I)I" } : Jvm.MethodName) prog_1_method_50_code (7 : Nat) (Option.some Jvm.ClassFile.FieldType.int)) ∈ gtbl := mg (mm_3 (List.mem_of_getElem? (i := 161) rfl)) rfl
set_option maxRecDepth 20000 in
theorem m_3_162 : (Jvm.Cond.methodLink "DrawerGloves" (352 : Nat) ({ cls := "java/lang/Math", name := "abs", desc := "(I)I" } : Jvm.MethodName)) ∈ gtbl := mg (mm_3 (List.mem_of_getElem? (i := 162) rfl)) rfl
set_option maxRecDepth 20000 in
theorem m_3_163 : (Jvm.Cond.methodLink "DrawerGlovesLaw" (110 : Nat) ({ cls := "DrawerGloves", name := "wished", desc := "()I" } : Jvm.MethodName)) ∈ gtbl := mg (mm_3 (List.mem_of_getElem? (i := 163) rfl)) rfl
set_option maxRecDepth 20000 in
theorem m_3_164 : (Jvm.Cond.instanceMethod ({ cls := "DrawerGloves", name := "wished", desc := "()I" } : Jvm.MethodName)) ∈ gtbl := mg (mm_3 (List.mem_of_getElem? (i := 164) rfl)) rfl
set_option maxRecDepth 20000 in
theorem m_3_165 : (Jvm.Cond.selects "DrawerGloves" ({ cls := "DrawerGloves", name := "wished", desc := "()I" } : Jvm.MethodName) ({ cls := "DrawerGloves", name := "wished", desc := "()I" } : Jvm.MethodName)) ∈ gtbl := mg (mm_3 (List.mem_of_getElem? (i := 165) rfl)) rfl
set_option maxRecDepth 20000 in
theorem m_3_166 : (Jvm.Cond.code ({ cls := "DrawerGloves", name := "wished", desc := "()I" } : Jvm.MethodName) prog_1_method_25_code (1 : Nat) (Option.some Jvm.ClassFile.FieldType.int)) ∈ gtbl := mg (mm_3 (List.mem_of_getElem? (i := 166) rfl)) rfl
set_option maxRecDepth 20000 in
theorem m_3_167 : (Jvm.Cond.methodLink "DrawerGlovesLaw" (114 : Nat) ({ cls := "DrawerGloves", name := "days", desc := "(II)I" } : Jvm.MethodName)) ∈ gtbl := mg (mm_3 (List.mem_of_getElem? (i := 167) rfl)) rfl
set_option maxRecDepth 20000 in
theorem m_3_168 : (Jvm.Cond.instanceMethod ({ cls := "DrawerGloves", name := "days", desc := "(II)I" } : Jvm.MethodName)) ∈ gtbl := mg (mm_3 (List.mem_of_getElem? (i := 168) rfl)) rfl
set_option maxRecDepth 20000 in
theorem m_3_169 : (Jvm.Cond.selects "DrawerGloves" ({ cls := "DrawerGloves", name := "days", desc := "(II)I" } : Jvm.MethodName) ({ cls := "DrawerGloves", name := "days", desc := "(II)I" } : Jvm.MethodName)) ∈ gtbl := mg (mm_3 (List.mem_of_getElem? (i := 169) rfl)) rfl
set_option maxRecDepth 20000 in
theorem m_3_170 : (Jvm.Cond.code ({ cls := "DrawerGloves", name := "days", desc := "(II)I" } : Jvm.MethodName) prog_1_method_26_code (3 : Nat) (Option.some Jvm.ClassFile.FieldType.int)) ∈ gtbl := mg (mm_3 (List.mem_of_getElem? (i := 170) rfl)) rfl
set_option maxRecDepth 20000 in
theorem m_3_171 : (Jvm.Cond.methodLink "DrawerGloves" (257 : Nat) ({ cls := "DrawerGloves$Calendar", name := "plan", desc := "(LDrawerGloves$Drawer;ILDrawerGloves$Rows;I)I" } : Jvm.MethodName)) ∈ gtbl := mg (mm_3 (List.mem_of_getElem? (i := 171) rfl)) rfl
set_option maxRecDepth 20000 in
theorem m_3_172 : (Jvm.Cond.instanceMethod ({ cls := "DrawerGloves$Calendar", name := "plan", desc := "(LDrawerGloves$Drawer;ILDrawerGloves$Rows;I)I" } : Jvm.MethodName)) ∈ gtbl := mg (mm_3 (List.mem_of_getElem? (i := 172) rfl)) rfl
set_option maxRecDepth 20000 in
theorem m_3_173 : (Jvm.Cond.selects "DrawerGloves$Calendar" ({ cls := "DrawerGloves$Calendar", name := "plan", desc := "(LDrawerGloves$Drawer;ILDrawerGloves$Rows;I)I" } : Jvm.MethodName) ({ cls := "DrawerGloves$Calendar", name := "plan", desc := "(LDrawerGloves$Drawer;ILDrawerGloves$Rows;I)I" } : Jvm.MethodName)) ∈ gtbl := mg (mm_3 (List.mem_of_getElem? (i := 173) rfl)) rfl
set_option maxRecDepth 20000 in
theorem m_3_174 : (Jvm.Cond.code ({ cls := "DrawerGloves$Calendar", name := "plan", desc := "(LDrawerGloves$Drawer;ILDrawerGloves$Rows;I)I" } : Jvm.MethodName) prog_2_method_2_code (6 : Nat) (Option.some Jvm.ClassFile.FieldType.int)) ∈ gtbl := mg (mm_3 (List.mem_of_getElem? (i := 174) rfl)) rfl
set_option maxRecDepth 20000 in
theorem m_3_175 : (Jvm.Cond.methodLink "DrawerGloves$Calendar" (28 : Nat) ({ cls := "DrawerGloves$Calendar", name := "gather", desc := "(LDrawerGloves$Drawer;)V" } : Jvm.MethodName)) ∈ gtbl := mg (mm_3 (List.mem_of_getElem? (i := 175) rfl)) rfl
set_option maxRecDepth 20000 in
theorem m_3_177 : (Jvm.Cond.instanceMethod ({ cls := "DrawerGloves$Calendar", name := "gather", desc := "(LDrawerGloves$Drawer;)V" } : Jvm.MethodName)) ∈ gtbl := mg (mm_3 (List.mem_of_getElem? (i := 177) rfl)) rfl
set_option maxRecDepth 20000 in
theorem m_3_178 : (Jvm.Cond.code ({ cls := "DrawerGloves$Calendar", name := "gather", desc := "(LDrawerGloves$Drawer;)V" } : Jvm.MethodName) prog_2_method_3_code (5 : Nat) (Option.none : Option Jvm.ClassFile.FieldType)) ∈ gtbl := mg (mm_3 (List.mem_of_getElem? (i := 178) rfl)) rfl
set_option maxRecDepth 20000 in
theorem m_3_179 : (Jvm.Cond.methodLink "DrawerGloves$Calendar" (58 : Nat) ({ cls := "DrawerGloves$Glove", name := "becomeLike", desc := "(LDrawerGloves$Glove;)V" } : Jvm.MethodName)) ∈ gtbl := mg (mm_3 (List.mem_of_getElem? (i := 179) rfl)) rfl
set_option maxRecDepth 20000 in
theorem m_3_180 : (Jvm.Cond.methodLink "DrawerGloves$Calendar" (67 : Nat) ({ cls := "DrawerGloves$Glove", name := "goodWith", desc := "(LDrawerGloves$Glove;)I" } : Jvm.MethodName)) ∈ gtbl := mg (mm_3 (List.mem_of_getElem? (i := 180) rfl)) rfl
set_option maxRecDepth 20000 in
theorem m_3_181 : (Jvm.Cond.methodLink "DrawerGloves$Calendar" (71 : Nat) ({ cls := "DrawerGloves$Drawer", name := "isInside", desc := "(I)Z" } : Jvm.MethodName)) ∈ gtbl := mg (mm_3 (List.mem_of_getElem? (i := 181) rfl)) rfl
set_option maxRecDepth 20000 in
theorem m_3_182 : (Jvm.Cond.methodLink "DrawerGloves$Calendar" (75 : Nat) ({ cls := "java/lang/Math", name := "max", desc := "(II)I" } : Jvm.MethodName)) ∈ gtbl := mg (mm_3 (List.mem_of_getElem? (i := 182) rfl)) rfl
set_option maxRecDepth 20000 in
theorem m_3_183 : (Jvm.Cond.methodLink "DrawerGloves$Calendar" (39 : Nat) ({ cls := "DrawerGloves$Calendar", name := "search", desc := "(LDrawerGloves$Calendar;III)V" } : Jvm.MethodName)) ∈ gtbl := mg (mm_3 (List.mem_of_getElem? (i := 183) rfl)) rfl
set_option maxRecDepth 20000 in
theorem m_3_184 : (Jvm.Cond.static ({ cls := "DrawerGloves$Calendar", name := "search", desc := "(LDrawerGloves$Calendar;III)V" } : Jvm.MethodName)) ∈ gtbl := mg (mm_3 (List.mem_of_getElem? (i := 184) rfl)) rfl
set_option maxRecDepth 20000 in
theorem m_3_185 : (Jvm.Cond.code ({ cls := "DrawerGloves$Calendar", name := "search", desc := "(LDrawerGloves$Calendar;III)V" } : Jvm.MethodName) prog_2_method_4_code (8 : Nat) (Option.none : Option Jvm.ClassFile.FieldType)) ∈ gtbl := mg (mm_3 (List.mem_of_getElem? (i := 185) rfl)) rfl
set_option maxRecDepth 20000 in
theorem m_3_186 : (Jvm.Cond.methodLink "DrawerGloves$Calendar" (43 : Nat) ({ cls := "DrawerGloves$Rows", name := "begin", desc := "(II)V" } : Jvm.MethodName)) ∈ gtbl := mg (mm_3 (List.mem_of_getElem? (i := 186) rfl)) rfl
set_option maxRecDepth 20000 in
theorem m_3_187 : (Jvm.Cond.methodLink "DrawerGloves$Calendar" (49 : Nat) ({ cls := "DrawerGloves$Rows", name := "write", desc := "(III)V" } : Jvm.MethodName)) ∈ gtbl := mg (mm_3 (List.mem_of_getElem? (i := 187) rfl)) rfl
set_option maxRecDepth 20000 in
theorem m_3_188 : (Jvm.Cond.methodLink "DrawerGlovesLaw" (118 : Nat) ({ cls := "DrawerGloves", name := "room", desc := "()I" } : Jvm.MethodName)) ∈ gtbl := mg (mm_3 (List.mem_of_getElem? (i := 188) rfl)) rfl
set_option maxRecDepth 20000 in
theorem m_3_189 : (Jvm.Cond.instanceMethod ({ cls := "DrawerGloves", name := "room", desc := "()I" } : Jvm.MethodName)) ∈ gtbl := mg (mm_3 (List.mem_of_getElem? (i := 189) rfl)) rfl
set_option maxRecDepth 20000 in
theorem m_3_190 : (Jvm.Cond.selects "DrawerGloves" ({ cls := "DrawerGloves", name := "room", desc := "()I" } : Jvm.MethodName) ({ cls := "DrawerGloves", name := "room", desc := "()I" } : Jvm.MethodName)) ∈ gtbl := mg (mm_3 (List.mem_of_getElem? (i := 190) rfl)) rfl
set_option maxRecDepth 20000 in
theorem m_3_191 : (Jvm.Cond.code ({ cls := "DrawerGloves", name := "room", desc := "()I" } : Jvm.MethodName) prog_1_method_27_code (2 : Nat) (Option.some Jvm.ClassFile.FieldType.int)) ∈ gtbl := mg (mm_3 (List.mem_of_getElem? (i := 191) rfl)) rfl
set_option maxRecDepth 20000 in
theorem m_3_192 : (Jvm.Cond.methodLink "DrawerGloves" (261 : Nat) ({ cls := "DrawerGloves$Makings", name := "safestSet", desc := "(LDrawerGloves$Drawer;)I" } : Jvm.MethodName)) ∈ gtbl := mg (mm_3 (List.mem_of_getElem? (i := 192) rfl)) rfl
set_option maxRecDepth 20000 in
theorem m_3_193 : (Jvm.Cond.instanceMethod ({ cls := "DrawerGloves$Makings", name := "safestSet", desc := "(LDrawerGloves$Drawer;)I" } : Jvm.MethodName)) ∈ gtbl := mg (mm_3 (List.mem_of_getElem? (i := 193) rfl)) rfl
set_option maxRecDepth 20000 in
theorem m_3_194 : (Jvm.Cond.selects "DrawerGloves$Makings" ({ cls := "DrawerGloves$Makings", name := "safestSet", desc := "(LDrawerGloves$Drawer;)I" } : Jvm.MethodName) ({ cls := "DrawerGloves$Makings", name := "safestSet", desc := "(LDrawerGloves$Drawer;)I" } : Jvm.MethodName)) ∈ gtbl := mg (mm_3 (List.mem_of_getElem? (i := 194) rfl)) rfl
set_option maxRecDepth 20000 in
theorem m_3_195 : (Jvm.Cond.code ({ cls := "DrawerGloves$Makings", name := "safestSet", desc := "(LDrawerGloves$Drawer;)I" } : Jvm.MethodName) prog_8_method_6_code (6 : Nat) (Option.some Jvm.ClassFile.FieldType.int)) ∈ gtbl := mg (mm_3 (List.mem_of_getElem? (i := 195) rfl)) rfl
set_option maxRecDepth 20000 in
theorem m_3_196 : (Jvm.Cond.methodLink "DrawerGloves$Makings" (67 : Nat) ({ cls := "java/lang/Integer", name := "bitCount", desc := "(I)I" } : Jvm.MethodName)) ∈ gtbl := mg (mm_3 (List.mem_of_getElem? (i := 196) rfl)) rfl
set_option maxRecDepth 20000 in
theorem m_3_197 : (Jvm.Cond.methodLink "DrawerGloves$Makings" (75 : Nat) ({ cls := "DrawerGloves$Makings", name := "isSafer", desc := "(LDrawerGloves$Drawer;II)Z" } : Jvm.MethodName)) ∈ gtbl := mg (mm_3 (List.mem_of_getElem? (i := 197) rfl)) rfl
set_option maxRecDepth 20000 in
theorem m_3_199 : (Jvm.Cond.instanceMethod ({ cls := "DrawerGloves$Makings", name := "isSafer", desc := "(LDrawerGloves$Drawer;II)Z" } : Jvm.MethodName)) ∈ gtbl := mg (mm_3 (List.mem_of_getElem? (i := 199) rfl)) rfl
set_option maxRecDepth 20000 in
theorem m_3_200 : (Jvm.Cond.code ({ cls := "DrawerGloves$Makings", name := "isSafer", desc := "(LDrawerGloves$Drawer;II)Z" } : Jvm.MethodName) prog_8_method_7_code (6 : Nat) (Option.some Jvm.ClassFile.FieldType.boolean)) ∈ gtbl := mg (mm_3 (List.mem_of_getElem? (i := 200) rfl)) rfl
set_option maxRecDepth 20000 in
theorem m_3_201 : (Jvm.Cond.methodLink "DrawerGloves$Makings" (79 : Nat) ({ cls := "DrawerGloves$Makings", name := "afterWorstLoss", desc := "(LDrawerGloves$Drawer;I)I" } : Jvm.MethodName)) ∈ gtbl := mg (mm_3 (List.mem_of_getElem? (i := 201) rfl)) rfl
set_option maxRecDepth 20000 in
theorem m_3_202 : (Jvm.Cond.instanceMethod ({ cls := "DrawerGloves$Makings", name := "afterWorstLoss", desc := "(LDrawerGloves$Drawer;I)I" } : Jvm.MethodName)) ∈ gtbl := mg (mm_3 (List.mem_of_getElem? (i := 202) rfl)) rfl
set_option maxRecDepth 20000 in
theorem m_3_203 : (Jvm.Cond.selects "DrawerGloves$Makings" ({ cls := "DrawerGloves$Makings", name := "afterWorstLoss", desc := "(LDrawerGloves$Drawer;I)I" } : Jvm.MethodName) ({ cls := "DrawerGloves$Makings", name := "afterWorstLoss", desc := "(LDrawerGloves$Drawer;I)I" } : Jvm.MethodName)) ∈ gtbl := mg (mm_3 (List.mem_of_getElem? (i := 203) rfl)) rfl
set_option maxRecDepth 20000 in
theorem m_3_204 : (Jvm.Cond.code ({ cls := "DrawerGloves$Makings", name := "afterWorstLoss", desc := "(LDrawerGloves$Drawer;I)I" } : Jvm.MethodName) prog_8_method_8_code (5 : Nat) (Option.some Jvm.ClassFile.FieldType.int)) ∈ gtbl := mg (mm_3 (List.mem_of_getElem? (i := 204) rfl)) rfl
set_option maxRecDepth 20000 in
theorem m_3_205 : (Jvm.Cond.methodLink "DrawerGloves$Makings" (86 : Nat) ({ cls := "java/lang/Math", name := "min", desc := "(II)I" } : Jvm.MethodName)) ∈ gtbl := mg (mm_3 (List.mem_of_getElem? (i := 205) rfl)) rfl
set_option maxRecDepth 20000 in
theorem m_3_206 : (Jvm.Cond.static ({ cls := "java/lang/Math", name := "min", desc := "(II)I" } : Jvm.MethodName)) ∈ gtbl := mg (mm_3 (List.mem_of_getElem? (i := 206) rfl)) rfl
set_option maxRecDepth 20000 in
theorem m_3_207 : (Jvm.Cond.code ({ cls := "java/lang/Math", name := "min", desc := "(II)I" } : Jvm.MethodName) prog_15_method_69_code (2 : Nat) (Option.some Jvm.ClassFile.FieldType.int)) ∈ gtbl := mg (mm_3 (List.mem_of_getElem? (i := 207) rfl)) rfl
set_option maxRecDepth 20000 in
theorem m_3_208 : (Jvm.Cond.methodLink "DrawerGloves" (265 : Nat) ({ cls := "DrawerGloves$Makings", name := "afterWorstLoss", desc := "(LDrawerGloves$Drawer;I)I" } : Jvm.MethodName)) ∈ gtbl := mg (mm_3 (List.mem_of_getElem? (i := 208) rfl)) rfl
set_option maxRecDepth 20000 in
theorem m_3_209 : (Jvm.Cond.methodLink "DrawerGlovesLaw" (122 : Nat) ({ cls := "DrawerGloves", name := "join", desc := "(II)I" } : Jvm.MethodName)) ∈ gtbl := mg (mm_3 (List.mem_of_getElem? (i := 209) rfl)) rfl
set_option maxRecDepth 20000 in
theorem m_3_210 : (Jvm.Cond.instanceMethod ({ cls := "DrawerGloves", name := "join", desc := "(II)I" } : Jvm.MethodName)) ∈ gtbl := mg (mm_3 (List.mem_of_getElem? (i := 210) rfl)) rfl
set_option maxRecDepth 20000 in
theorem m_3_211 : (Jvm.Cond.selects "DrawerGloves" ({ cls := "DrawerGloves", name := "join", desc := "(II)I" } : Jvm.MethodName) ({ cls := "DrawerGloves", name := "join", desc := "(II)I" } : Jvm.MethodName)) ∈ gtbl := mg (mm_3 (List.mem_of_getElem? (i := 211) rfl)) rfl
set_option maxRecDepth 20000 in
theorem m_3_212 : (Jvm.Cond.code ({ cls := "DrawerGloves", name := "join", desc := "(II)I" } : Jvm.MethodName) prog_1_method_28_code (3 : Nat) (Option.some Jvm.ClassFile.FieldType.int)) ∈ gtbl := mg (mm_3 (List.mem_of_getElem? (i := 212) rfl)) rfl
set_option maxRecDepth 20000 in
theorem m_3_213 : (Jvm.Cond.methodLink "DrawerGlovesLaw" (126 : Nat) ({ cls := "DrawerGloves", name := "sorts", desc := "(II)I" } : Jvm.MethodName)) ∈ gtbl := mg (mm_3 (List.mem_of_getElem? (i := 213) rfl)) rfl
set_option maxRecDepth 20000 in
theorem m_3_214 : (Jvm.Cond.instanceMethod ({ cls := "DrawerGloves", name := "sorts", desc := "(II)I" } : Jvm.MethodName)) ∈ gtbl := mg (mm_3 (List.mem_of_getElem? (i := 214) rfl)) rfl
set_option maxRecDepth 20000 in
theorem m_3_215 : (Jvm.Cond.selects "DrawerGloves" ({ cls := "DrawerGloves", name := "sorts", desc := "(II)I" } : Jvm.MethodName) ({ cls := "DrawerGloves", name := "sorts", desc := "(II)I" } : Jvm.MethodName)) ∈ gtbl := mg (mm_3 (List.mem_of_getElem? (i := 215) rfl)) rfl
set_option maxRecDepth 20000 in
theorem m_3_216 : (Jvm.Cond.code ({ cls := "DrawerGloves", name := "sorts", desc := "(II)I" } : Jvm.MethodName) prog_1_method_29_code (4 : Nat) (Option.some Jvm.ClassFile.FieldType.int)) ∈ gtbl := mg (mm_3 (List.mem_of_getElem? (i := 216) rfl)) rfl
set_option maxRecDepth 20000 in
theorem m_3_217 : (Jvm.Cond.methodLink "DrawerGloves" (268 : Nat) ({ cls := "DrawerGloves", name := "refusedGuess", desc := "(II)I" } : Jvm.MethodName)) ∈ gtbl := mg (mm_3 (List.mem_of_getElem? (i := 217) rfl)) rfl
set_option maxRecDepth 20000 in
theorem m_3_219 : (Jvm.Cond.instanceMethod ({ cls := "DrawerGloves", name := "refusedGuess", desc := "(II)I" } : Jvm.MethodName)) ∈ gtbl := mg (mm_3 (List.mem_of_getElem? (i := 219) rfl)) rfl
set_option maxRecDepth 20000 in
theorem m_3_220 : (Jvm.Cond.code ({ cls := "DrawerGloves", name := "refusedGuess", desc := "(II)I" } : Jvm.MethodName) prog_1_method_49_code (4 : Nat) (Option.some Jvm.ClassFile.FieldType.int)) ∈ gtbl := mg (mm_3 (List.mem_of_getElem? (i := 220) rfl)) rfl
set_option maxRecDepth 20000 in
theorem m_3_221 : (Jvm.Cond.methodLink "DrawerGloves" (348 : Nat) ({ cls := "DrawerGloves$Guess", name := "isWellTold", desc := "(LDrawerGloves$Drawer;ILDrawerGloves$Rows;I)Z" } : Jvm.MethodName)) ∈ gtbl := mg (mm_3 (List.mem_of_getElem? (i := 221) rfl)) rfl
set_option maxRecDepth 20000 in
theorem m_3_222 : (Jvm.Cond.instanceMethod ({ cls := "DrawerGloves$Guess", name := "isWellTold", desc := "(LDrawerGloves$Drawer;ILDrawerGloves$Rows;I)Z" } : Jvm.MethodName)) ∈ gtbl := mg (mm_3 (List.mem_of_getElem? (i := 222) rfl)) rfl
set_option maxRecDepth 20000 in
theorem m_3_223 : (Jvm.Cond.selects "DrawerGloves$Guess" ({ cls := "DrawerGloves$Guess", name := "isWellTold", desc := "(LDrawerGloves$Drawer;ILDrawerGloves$Rows;I)Z" } : Jvm.MethodName) ({ cls := "DrawerGloves$Guess", name := "isWellTold", desc := "(LDrawerGloves$Drawer;ILDrawerGloves$Rows;I)Z" } : Jvm.MethodName)) ∈ gtbl := mg (mm_3 (List.mem_of_getElem? (i := 223) rfl)) rfl
set_option maxRecDepth 20000 in
theorem m_3_224 : (Jvm.Cond.code ({ cls := "DrawerGloves$Guess", name := "isWellTold", desc := "(LDrawerGloves$Drawer;ILDrawerGloves$Rows;I)Z" } : Jvm.MethodName) prog_7_method_2_code (8 : Nat) (Option.some Jvm.ClassFile.FieldType.boolean)) ∈ gtbl := mg (mm_3 (List.mem_of_getElem? (i := 224) rfl)) rfl
set_option maxRecDepth 20000 in
theorem m_3_225 : (Jvm.Cond.methodLink "DrawerGloves$Guess" (22 : Nat) ({ cls := "DrawerGloves$Rows", name := "sizeOf", desc := "(I)I" } : Jvm.MethodName)) ∈ gtbl := mg (mm_3 (List.mem_of_getElem? (i := 225) rfl)) rfl
set_option maxRecDepth 20000 in
theorem m_3_226 : (Jvm.Cond.methodLink "DrawerGloves$Guess" (28 : Nat) ({ cls := "DrawerGloves$Rows", name := "read", desc := "(II)I" } : Jvm.MethodName)) ∈ gtbl := mg (mm_3 (List.mem_of_getElem? (i := 226) rfl)) rfl
set_option maxRecDepth 20000 in
theorem m_3_227 : (Jvm.Cond.methodLink "DrawerGloves$Guess" (32 : Nat) ({ cls := "DrawerGloves$Drawer", name := "has", desc := "(I)Z" } : Jvm.MethodName)) ∈ gtbl := mg (mm_3 (List.mem_of_getElem? (i := 227) rfl)) rfl
set_option maxRecDepth 20000 in
theorem m_3_228 : (Jvm.Cond.methodLink "DrawerGloves" (271 : Nat) ({ cls := "DrawerGloves$Guess", name := "sortsLeft", desc := "(LDrawerGloves$Drawer;ILDrawerGloves$Rows;I)I" } : Jvm.MethodName)) ∈ gtbl := mg (mm_3 (List.mem_of_getElem? (i := 228) rfl)) rfl
set_option maxRecDepth 20000 in
theorem m_3_229 : (Jvm.Cond.instanceMethod ({ cls := "DrawerGloves$Guess", name := "sortsLeft", desc := "(LDrawerGloves$Drawer;ILDrawerGloves$Rows;I)I" } : Jvm.MethodName)) ∈ gtbl := mg (mm_3 (List.mem_of_getElem? (i := 229) rfl)) rfl
set_option maxRecDepth 20000 in
theorem m_3_230 : (Jvm.Cond.selects "DrawerGloves$Guess" ({ cls := "DrawerGloves$Guess", name := "sortsLeft", desc := "(LDrawerGloves$Drawer;ILDrawerGloves$Rows;I)I" } : Jvm.MethodName) ({ cls := "DrawerGloves$Guess", name := "sortsLeft", desc := "(LDrawerGloves$Drawer;ILDrawerGloves$Rows;I)I" } : Jvm.MethodName)) ∈ gtbl := mg (mm_3 (List.mem_of_getElem? (i := 230) rfl)) rfl
set_option maxRecDepth 20000 in
theorem m_3_231 : (Jvm.Cond.code ({ cls := "DrawerGloves$Guess", name := "sortsLeft", desc := "(LDrawerGloves$Drawer;ILDrawerGloves$Rows;I)I" } : Jvm.MethodName) prog_7_method_4_code (7 : Nat) (Option.some Jvm.ClassFile.FieldType.int)) ∈ gtbl := mg (mm_3 (List.mem_of_getElem? (i := 231) rfl)) rfl
set_option maxRecDepth 20000 in
theorem m_3_232 : (Jvm.Cond.methodLink "DrawerGloves$Guess" (54 : Nat) ({ cls := "DrawerGloves$Guess", name := "agrees", desc := "(LDrawerGloves$Drawer;LDrawerGloves$Rows;I)Z" } : Jvm.MethodName)) ∈ gtbl := mg (mm_3 (List.mem_of_getElem? (i := 232) rfl)) rfl
set_option maxRecDepth 20000 in
theorem m_3_234 : (Jvm.Cond.instanceMethod ({ cls := "DrawerGloves$Guess", name := "agrees", desc := "(LDrawerGloves$Drawer;LDrawerGloves$Rows;I)Z" } : Jvm.MethodName)) ∈ gtbl := mg (mm_3 (List.mem_of_getElem? (i := 234) rfl)) rfl
set_option maxRecDepth 20000 in
theorem m_3_235 : (Jvm.Cond.code ({ cls := "DrawerGloves$Guess", name := "agrees", desc := "(LDrawerGloves$Drawer;LDrawerGloves$Rows;I)Z" } : Jvm.MethodName) prog_7_method_3_code (6 : Nat) (Option.some Jvm.ClassFile.FieldType.boolean)) ∈ gtbl := mg (mm_3 (List.mem_of_getElem? (i := 235) rfl)) rfl
set_option maxRecDepth 20000 in
theorem m_3_236 : (Jvm.Cond.methodLink "DrawerGlovesLaw" (130 : Nat) ({ cls := "DrawerGloves", name := "hands", desc := "(II)I" } : Jvm.MethodName)) ∈ gtbl := mg (mm_3 (List.mem_of_getElem? (i := 236) rfl)) rfl
set_option maxRecDepth 20000 in
theorem m_3_237 : (Jvm.Cond.instanceMethod ({ cls := "DrawerGloves", name := "hands", desc := "(II)I" } : Jvm.MethodName)) ∈ gtbl := mg (mm_3 (List.mem_of_getElem? (i := 237) rfl)) rfl
set_option maxRecDepth 20000 in
theorem m_3_238 : (Jvm.Cond.selects "DrawerGloves" ({ cls := "DrawerGloves", name := "hands", desc := "(II)I" } : Jvm.MethodName) ({ cls := "DrawerGloves", name := "hands", desc := "(II)I" } : Jvm.MethodName)) ∈ gtbl := mg (mm_3 (List.mem_of_getElem? (i := 238) rfl)) rfl
set_option maxRecDepth 20000 in
theorem m_3_239 : (Jvm.Cond.code ({ cls := "DrawerGloves", name := "hands", desc := "(II)I" } : Jvm.MethodName) prog_1_method_30_code (4 : Nat) (Option.some Jvm.ClassFile.FieldType.int)) ∈ gtbl := mg (mm_3 (List.mem_of_getElem? (i := 239) rfl)) rfl
set_option maxRecDepth 20000 in
theorem m_4_0 : (Jvm.Cond.methodLink "DrawerGloves" (274 : Nat) ({ cls := "DrawerGloves$Guess", name := "handsLeft", desc := "(LDrawerGloves$Drawer;ILDrawerGloves$Rows;I)I" } : Jvm.MethodName)) ∈ gtbl := mg (mm_4 (List.mem_of_getElem? (i := 0) rfl)) rfl
set_option maxRecDepth 20000 in
theorem m_4_1 : (Jvm.Cond.instanceMethod ({ cls := "DrawerGloves$Guess", name := "handsLeft", desc := "(LDrawerGloves$Drawer;ILDrawerGloves$Rows;I)I" } : Jvm.MethodName)) ∈ gtbl := mg (mm_4 (List.mem_of_getElem? (i := 1) rfl)) rfl
set_option maxRecDepth 20000 in
theorem m_4_2 : (Jvm.Cond.selects "DrawerGloves$Guess" ({ cls := "DrawerGloves$Guess", name := "handsLeft", desc := "(LDrawerGloves$Drawer;ILDrawerGloves$Rows;I)I" } : Jvm.MethodName) ({ cls := "DrawerGloves$Guess", name := "handsLeft", desc := "(LDrawerGloves$Drawer;ILDrawerGloves$Rows;I)I" } : Jvm.MethodName)) ∈ gtbl := mg (mm_4 (List.mem_of_getElem? (i := 2) rfl)) rfl
set_option maxRecDepth 20000 in
theorem m_4_3 : (Jvm.Cond.code ({ cls := "DrawerGloves$Guess", name := "handsLeft", desc := "(LDrawerGloves$Drawer;ILDrawerGloves$Rows;I)I" } : Jvm.MethodName) prog_7_method_5_code (7 : Nat) (Option.some Jvm.ClassFile.FieldType.int)) ∈ gtbl := mg (mm_4 (List.mem_of_getElem? (i := 3) rfl)) rfl
set_option maxRecDepth 20000 in
theorem m_4_4 : (Jvm.Cond.methodLink "DrawerGlovesLaw" (134 : Nat) ({ cls := "DrawerGloves", name := "kinds", desc := "(II)I" } : Jvm.MethodName)) ∈ gtbl := mg (mm_4 (List.mem_of_getElem? (i := 4) rfl)) rfl
set_option maxRecDepth 20000 in
theorem m_4_5 : (Jvm.Cond.instanceMethod ({ cls := "DrawerGloves", name := "kinds", desc := "(II)I" } : Jvm.MethodName)) ∈ gtbl := mg (mm_4 (List.mem_of_getElem? (i := 5) rfl)) rfl
set_option maxRecDepth 20000 in
theorem m_4_6 : (Jvm.Cond.selects "DrawerGloves" ({ cls := "DrawerGloves", name := "kinds", desc := "(II)I" } : Jvm.MethodName) ({ cls := "DrawerGloves", name := "kinds", desc := "(II)I" } : Jvm.MethodName)) ∈ gtbl := mg (mm_4 (List.mem_of_getElem? (i := 6) rfl)) rfl
set_option maxRecDepth 20000 in
theorem m_4_7 : (Jvm.Cond.code ({ cls := "DrawerGloves", name := "kinds", desc := "(II)I" } : Jvm.MethodName) prog_1_method_31_code (4 : Nat) (Option.some Jvm.ClassFile.FieldType.int)) ∈ gtbl := mg (mm_4 (List.mem_of_getElem? (i := 7) rfl)) rfl
set_option maxRecDepth 20000 in
theorem m_4_8 : (Jvm.Cond.methodLink "DrawerGloves" (277 : Nat) ({ cls := "DrawerGloves$Guess", name := "kindsLeft", desc := "(LDrawerGloves$Drawer;ILDrawerGloves$Rows;I)I" } : Jvm.MethodName)) ∈ gtbl := mg (mm_4 (List.mem_of_getElem? (i := 8) rfl)) rfl
set_option maxRecDepth 20000 in
theorem m_4_9 : (Jvm.Cond.instanceMethod ({ cls := "DrawerGloves$Guess", name := "kindsLeft", desc := "(LDrawerGloves$Drawer;ILDrawerGloves$Rows;I)I" } : Jvm.MethodName)) ∈ gtbl := mg (mm_4 (List.mem_of_getElem? (i := 9) rfl)) rfl
set_option maxRecDepth 20000 in
theorem m_4_10 : (Jvm.Cond.selects "DrawerGloves$Guess" ({ cls := "DrawerGloves$Guess", name := "kindsLeft", desc := "(LDrawerGloves$Drawer;ILDrawerGloves$Rows;I)I" } : Jvm.MethodName) ({ cls := "DrawerGloves$Guess", name := "kindsLeft", desc := "(LDrawerGloves$Drawer;ILDrawerGloves$Rows;I)I" } : Jvm.MethodName)) ∈ gtbl := mg (mm_4 (List.mem_of_getElem? (i := 10) rfl)) rfl
set_option maxRecDepth 20000 in
theorem m_4_11 : (Jvm.Cond.code ({ cls := "DrawerGloves$Guess", name := "kindsLeft", desc := "(LDrawerGloves$Drawer;ILDrawerGloves$Rows;I)I" } : Jvm.MethodName) prog_7_method_6_code (7 : Nat) (Option.some Jvm.ClassFile.FieldType.int)) ∈ gtbl := mg (mm_4 (List.mem_of_getElem? (i := 11) rfl)) rfl
set_option maxRecDepth 20000 in
theorem m_4_12 : (Jvm.Cond.methodLink "DrawerGlovesLaw" (138 : Nat) ({ cls := "DrawerGloves", name := "test", desc := "(II)I" } : Jvm.MethodName)) ∈ gtbl := mg (mm_4 (List.mem_of_getElem? (i := 12) rfl)) rfl
set_option maxRecDepth 20000 in
theorem m_4_13 : (Jvm.Cond.instanceMethod ({ cls := "DrawerGloves", name := "test", desc := "(II)I" } : Jvm.MethodName)) ∈ gtbl := mg (mm_4 (List.mem_of_getElem? (i := 13) rfl)) rfl
set_option maxRecDepth 20000 in
theorem m_4_14 : (Jvm.Cond.selects "DrawerGloves" ({ cls := "DrawerGloves", name := "test", desc := "(II)I" } : Jvm.MethodName) ({ cls := "DrawerGloves", name := "test", desc := "(II)I" } : Jvm.MethodName)) ∈ gtbl := mg (mm_4 (List.mem_of_getElem? (i := 14) rfl)) rfl
set_option maxRecDepth 20000 in
theorem m_4_15 : (Jvm.Cond.code ({ cls := "DrawerGloves", name := "test", desc := "(II)I" } : Jvm.MethodName) prog_1_method_32_code (6 : Nat) (Option.some Jvm.ClassFile.FieldType.int)) ∈ gtbl := mg (mm_4 (List.mem_of_getElem? (i := 15) rfl)) rfl
set_option maxRecDepth 20000 in
theorem m_4_16 : (Jvm.Cond.methodLink "DrawerGloves" (280 : Nat) ({ cls := "DrawerGloves$Guess", name := "nextTry", desc := "(LDrawerGloves$Drawer;II)I" } : Jvm.MethodName)) ∈ gtbl := mg (mm_4 (List.mem_of_getElem? (i := 16) rfl)) rfl
set_option maxRecDepth 20000 in
theorem m_4_17 : (Jvm.Cond.instanceMethod ({ cls := "DrawerGloves$Guess", name := "nextTry", desc := "(LDrawerGloves$Drawer;II)I" } : Jvm.MethodName)) ∈ gtbl := mg (mm_4 (List.mem_of_getElem? (i := 17) rfl)) rfl
set_option maxRecDepth 20000 in
theorem m_4_18 : (Jvm.Cond.selects "DrawerGloves$Guess" ({ cls := "DrawerGloves$Guess", name := "nextTry", desc := "(LDrawerGloves$Drawer;II)I" } : Jvm.MethodName) ({ cls := "DrawerGloves$Guess", name := "nextTry", desc := "(LDrawerGloves$Drawer;II)I" } : Jvm.MethodName)) ∈ gtbl := mg (mm_4 (List.mem_of_getElem? (i := 18) rfl)) rfl
set_option maxRecDepth 20000 in
theorem m_4_19 : (Jvm.Cond.code ({ cls := "DrawerGloves$Guess", name := "nextTry", desc := "(LDrawerGloves$Drawer;II)I" } : Jvm.MethodName) prog_7_method_7_code (8 : Nat) (Option.some Jvm.ClassFile.FieldType.int)) ∈ gtbl := mg (mm_4 (List.mem_of_getElem? (i := 19) rfl)) rfl
set_option maxRecDepth 20000 in
theorem m_4_20 : (Jvm.Cond.methodLink "DrawerGloves$Guess" (67 : Nat) ({ cls := "DrawerGloves$Guess", name := "greatestPart", desc := "(LDrawerGloves$Drawer;III)I" } : Jvm.MethodName)) ∈ gtbl := mg (mm_4 (List.mem_of_getElem? (i := 20) rfl)) rfl
set_option maxRecDepth 20000 in
theorem m_4_21 : (Jvm.Cond.instanceMethod ({ cls := "DrawerGloves$Guess", name := "greatestPart", desc := "(LDrawerGloves$Drawer;III)I" } : Jvm.MethodName)) ∈ gtbl := mg (mm_4 (List.mem_of_getElem? (i := 21) rfl)) rfl
set_option maxRecDepth 20000 in
theorem m_4_22 : (Jvm.Cond.selects "DrawerGloves$Guess" ({ cls := "DrawerGloves$Guess", name := "greatestPart", desc := "(LDrawerGloves$Drawer;III)I" } : Jvm.MethodName) ({ cls := "DrawerGloves$Guess", name := "greatestPart", desc := "(LDrawerGloves$Drawer;III)I" } : Jvm.MethodName)) ∈ gtbl := mg (mm_4 (List.mem_of_getElem? (i := 22) rfl)) rfl
set_option maxRecDepth 20000 in
theorem m_4_23 : (Jvm.Cond.code ({ cls := "DrawerGloves$Guess", name := "greatestPart", desc := "(LDrawerGloves$Drawer;III)I" } : Jvm.MethodName) prog_7_method_8_code (7 : Nat) (Option.some Jvm.ClassFile.FieldType.int)) ∈ gtbl := mg (mm_4 (List.mem_of_getElem? (i := 23) rfl)) rfl
set_option maxRecDepth 20000 in
theorem m_4_24 : (Jvm.Cond.methodLink "DrawerGloves$Guess" (71 : Nat) ({ cls := "DrawerGloves$Guess", name := "howManyLike", desc := "(II)I" } : Jvm.MethodName)) ∈ gtbl := mg (mm_4 (List.mem_of_getElem? (i := 24) rfl)) rfl
set_option maxRecDepth 20000 in
theorem m_4_26 : (Jvm.Cond.instanceMethod ({ cls := "DrawerGloves$Guess", name := "howManyLike", desc := "(II)I" } : Jvm.MethodName)) ∈ gtbl := mg (mm_4 (List.mem_of_getElem? (i := 26) rfl)) rfl
set_option maxRecDepth 20000 in
theorem m_4_27 : (Jvm.Cond.code ({ cls := "DrawerGloves$Guess", name := "howManyLike", desc := "(II)I" } : Jvm.MethodName) prog_7_method_9_code (5 : Nat) (Option.some Jvm.ClassFile.FieldType.int)) ∈ gtbl := mg (mm_4 (List.mem_of_getElem? (i := 27) rfl)) rfl
set_option maxRecDepth 20000 in
theorem m_4_28 : (Jvm.Cond.methodLink "DrawerGloves$Guess" (74 : Nat) ({ cls := "java/lang/Math", name := "max", desc := "(II)I" } : Jvm.MethodName)) ∈ gtbl := mg (mm_4 (List.mem_of_getElem? (i := 28) rfl)) rfl
set_option maxRecDepth 20000 in
theorem m_4_29 : (Jvm.Cond.methodLink "DrawerGloves" (284 : Nat) ({ cls := "DrawerGloves$Guess", name := "greatestPart", desc := "(LDrawerGloves$Drawer;III)I" } : Jvm.MethodName)) ∈ gtbl := mg (mm_4 (List.mem_of_getElem? (i := 29) rfl)) rfl
set_option maxRecDepth 20000 in
theorem m_4_30 : (Jvm.Cond.methodLink "DrawerGlovesLaw" (142 : Nat) ({ cls := "DrawerGloves", name := "duel", desc := "(I)I" } : Jvm.MethodName)) ∈ gtbl := mg (mm_4 (List.mem_of_getElem? (i := 30) rfl)) rfl
set_option maxRecDepth 20000 in
theorem m_4_31 : (Jvm.Cond.instanceMethod ({ cls := "DrawerGloves", name := "duel", desc := "(I)I" } : Jvm.MethodName)) ∈ gtbl := mg (mm_4 (List.mem_of_getElem? (i := 31) rfl)) rfl
set_option maxRecDepth 20000 in
theorem m_4_32 : (Jvm.Cond.selects "DrawerGloves" ({ cls := "DrawerGloves", name := "duel", desc := "(I)I" } : Jvm.MethodName) ({ cls := "DrawerGloves", name := "duel", desc := "(I)I" } : Jvm.MethodName)) ∈ gtbl := mg (mm_4 (List.mem_of_getElem? (i := 32) rfl)) rfl
set_option maxRecDepth 20000 in
theorem m_4_33 : (Jvm.Cond.code ({ cls := "DrawerGloves", name := "duel", desc := "(I)I" } : Jvm.MethodName) prog_1_method_33_code (2 : Nat) (Option.some Jvm.ClassFile.FieldType.int)) ∈ gtbl := mg (mm_4 (List.mem_of_getElem? (i := 33) rfl)) rfl
set_option maxRecDepth 20000 in
theorem m_4_34 : (Jvm.Cond.methodLink "DrawerGloves" (288 : Nat) ({ cls := "DrawerGloves$Rivals", name := "leadAfter", desc := "(LDrawerGloves$Makings;II)I" } : Jvm.MethodName)) ∈ gtbl := mg (mm_4 (List.mem_of_getElem? (i := 34) rfl)) rfl
set_option maxRecDepth 20000 in
theorem m_4_35 : (Jvm.Cond.instanceMethod ({ cls := "DrawerGloves$Rivals", name := "leadAfter", desc := "(LDrawerGloves$Makings;II)I" } : Jvm.MethodName)) ∈ gtbl := mg (mm_4 (List.mem_of_getElem? (i := 35) rfl)) rfl
set_option maxRecDepth 20000 in
theorem m_4_36 : (Jvm.Cond.selects "DrawerGloves$Rivals" ({ cls := "DrawerGloves$Rivals", name := "leadAfter", desc := "(LDrawerGloves$Makings;II)I" } : Jvm.MethodName) ({ cls := "DrawerGloves$Rivals", name := "leadAfter", desc := "(LDrawerGloves$Makings;II)I" } : Jvm.MethodName)) ∈ gtbl := mg (mm_4 (List.mem_of_getElem? (i := 36) rfl)) rfl
set_option maxRecDepth 20000 in
theorem m_4_37 : (Jvm.Cond.code ({ cls := "DrawerGloves$Rivals", name := "leadAfter", desc := "(LDrawerGloves$Makings;II)I" } : Jvm.MethodName) prog_10_method_2_code (5 : Nat) (Option.some Jvm.ClassFile.FieldType.int)) ∈ gtbl := mg (mm_4 (List.mem_of_getElem? (i := 37) rfl)) rfl
set_option maxRecDepth 20000 in
theorem m_4_38 : (Jvm.Cond.constant "DrawerGloves$Rivals" (18 : Nat) (1000000 : Int32)) ∈ gtbl := mg (mm_4 (List.mem_of_getElem? (i := 38) rfl)) rfl
set_option maxRecDepth 20000 in
theorem m_4_39 : (Jvm.Cond.methodLink "DrawerGloves$Rivals" (19 : Nat) ({ cls := "DrawerGloves$Rivals", name := "lead", desc := "(LDrawerGloves$Rivals;LDrawerGloves$Makings;IIII)I" } : Jvm.MethodName)) ∈ gtbl := mg (mm_4 (List.mem_of_getElem? (i := 39) rfl)) rfl
set_option maxRecDepth 20000 in
theorem m_4_40 : (Jvm.Cond.static ({ cls := "DrawerGloves$Rivals", name := "lead", desc := "(LDrawerGloves$Rivals;LDrawerGloves$Makings;IIII)I" } : Jvm.MethodName)) ∈ gtbl := mg (mm_4 (List.mem_of_getElem? (i := 40) rfl)) rfl
set_option maxRecDepth 20000 in
theorem m_4_41 : (Jvm.Cond.code ({ cls := "DrawerGloves$Rivals", name := "lead", desc := "(LDrawerGloves$Rivals;LDrawerGloves$Makings;IIII)I" } : Jvm.MethodName) prog_10_method_3_code (10 : Nat) (Option.some Jvm.ClassFile.FieldType.int)) ∈ gtbl := mg (mm_4 (List.mem_of_getElem? (i := 41) rfl)) rfl
set_option maxRecDepth 20000 in
theorem m_4_42 : (Jvm.Cond.constant "DrawerGloves$Rivals" (28 : Nat) (-1000000 : Int32)) ∈ gtbl := mg (mm_4 (List.mem_of_getElem? (i := 42) rfl)) rfl
set_option maxRecDepth 20000 in
theorem m_4_43 : (Jvm.Cond.methodLink "DrawerGloves$Rivals" (29 : Nat) ({ cls := "java/lang/Math", name := "max", desc := "(II)I" } : Jvm.MethodName)) ∈ gtbl := mg (mm_4 (List.mem_of_getElem? (i := 43) rfl)) rfl
set_option maxRecDepth 20000 in
theorem m_4_44 : (Jvm.Cond.methodLink "DrawerGlovesLaw" (146 : Nat) ({ cls := "DrawerGloves", name := "odds", desc := "(III)I" } : Jvm.MethodName)) ∈ gtbl := mg (mm_4 (List.mem_of_getElem? (i := 44) rfl)) rfl
set_option maxRecDepth 20000 in
theorem m_4_45 : (Jvm.Cond.instanceMethod ({ cls := "DrawerGloves", name := "odds", desc := "(III)I" } : Jvm.MethodName)) ∈ gtbl := mg (mm_4 (List.mem_of_getElem? (i := 45) rfl)) rfl
set_option maxRecDepth 20000 in
theorem m_4_46 : (Jvm.Cond.selects "DrawerGloves" ({ cls := "DrawerGloves", name := "odds", desc := "(III)I" } : Jvm.MethodName) ({ cls := "DrawerGloves", name := "odds", desc := "(III)I" } : Jvm.MethodName)) ∈ gtbl := mg (mm_4 (List.mem_of_getElem? (i := 46) rfl)) rfl
set_option maxRecDepth 20000 in
theorem m_4_47 : (Jvm.Cond.code ({ cls := "DrawerGloves", name := "odds", desc := "(III)I" } : Jvm.MethodName) prog_1_method_34_code (4 : Nat) (Option.some Jvm.ClassFile.FieldType.int)) ∈ gtbl := mg (mm_4 (List.mem_of_getElem? (i := 47) rfl)) rfl
set_option maxRecDepth 20000 in
theorem m_4_48 : (Jvm.Cond.methodLink "DrawerGloves" (292 : Nat) ({ cls := "DrawerGloves", name := "isChance", desc := "(I)Z" } : Jvm.MethodName)) ∈ gtbl := mg (mm_4 (List.mem_of_getElem? (i := 48) rfl)) rfl
set_option maxRecDepth 20000 in
theorem m_4_49 : (Jvm.Cond.static ({ cls := "DrawerGloves", name := "isChance", desc := "(I)Z" } : Jvm.MethodName)) ∈ gtbl := mg (mm_4 (List.mem_of_getElem? (i := 49) rfl)) rfl
set_option maxRecDepth 20000 in
theorem m_4_50 : (Jvm.Cond.code ({ cls := "DrawerGloves", name := "isChance", desc := "(I)Z" } : Jvm.MethodName) prog_1_method_52_code (1 : Nat) (Option.some Jvm.ClassFile.FieldType.boolean)) ∈ gtbl := mg (mm_4 (List.mem_of_getElem? (i := 50) rfl)) rfl
set_option maxRecDepth 20000 in
theorem m_4_51 : (Jvm.Cond.methodLink "DrawerGloves" (295 : Nat) ({ cls := "DrawerGloves$Makings", name := "markSetsOf", desc := "(I)V" } : Jvm.MethodName)) ∈ gtbl := mg (mm_4 (List.mem_of_getElem? (i := 51) rfl)) rfl
set_option maxRecDepth 20000 in
theorem m_4_52 : (Jvm.Cond.instanceMethod ({ cls := "DrawerGloves$Makings", name := "markSetsOf", desc := "(I)V" } : Jvm.MethodName)) ∈ gtbl := mg (mm_4 (List.mem_of_getElem? (i := 52) rfl)) rfl
set_option maxRecDepth 20000 in
theorem m_4_53 : (Jvm.Cond.selects "DrawerGloves$Makings" ({ cls := "DrawerGloves$Makings", name := "markSetsOf", desc := "(I)V" } : Jvm.MethodName) ({ cls := "DrawerGloves$Makings", name := "markSetsOf", desc := "(I)V" } : Jvm.MethodName)) ∈ gtbl := mg (mm_4 (List.mem_of_getElem? (i := 53) rfl)) rfl
set_option maxRecDepth 20000 in
theorem m_4_54 : (Jvm.Cond.code ({ cls := "DrawerGloves$Makings", name := "markSetsOf", desc := "(I)V" } : Jvm.MethodName) prog_8_method_9_code (3 : Nat) (Option.none : Option Jvm.ClassFile.FieldType)) ∈ gtbl := mg (mm_4 (List.mem_of_getElem? (i := 54) rfl)) rfl
set_option maxRecDepth 20000 in
theorem m_4_55 : (Jvm.Cond.methodLink "DrawerGloves" (301 : Nat) ({ cls := "DrawerGloves$Chances", name := "reckon", desc := "(LDrawerGloves$Drawer;II[I)V" } : Jvm.MethodName)) ∈ gtbl := mg (mm_4 (List.mem_of_getElem? (i := 55) rfl)) rfl
set_option maxRecDepth 20000 in
theorem m_4_56 : (Jvm.Cond.instanceMethod ({ cls := "DrawerGloves$Chances", name := "reckon", desc := "(LDrawerGloves$Drawer;II[I)V" } : Jvm.MethodName)) ∈ gtbl := mg (mm_4 (List.mem_of_getElem? (i := 56) rfl)) rfl
set_option maxRecDepth 20000 in
theorem m_4_57 : (Jvm.Cond.selects "DrawerGloves$Chances" ({ cls := "DrawerGloves$Chances", name := "reckon", desc := "(LDrawerGloves$Drawer;II[I)V" } : Jvm.MethodName) ({ cls := "DrawerGloves$Chances", name := "reckon", desc := "(LDrawerGloves$Drawer;II[I)V" } : Jvm.MethodName)) ∈ gtbl := mg (mm_4 (List.mem_of_getElem? (i := 57) rfl)) rfl
set_option maxRecDepth 20000 in
theorem m_4_58 : (Jvm.Cond.code ({ cls := "DrawerGloves$Chances", name := "reckon", desc := "(LDrawerGloves$Drawer;II[I)V" } : Jvm.MethodName) prog_3_method_2_code (12 : Nat) (Option.none : Option Jvm.ClassFile.FieldType)) ∈ gtbl := mg (mm_4 (List.mem_of_getElem? (i := 58) rfl)) rfl
set_option maxRecDepth 20000 in
theorem m_4_59 : (Jvm.Cond.methodLink "DrawerGloves$Chances" (22 : Nat) ({ cls := "DrawerGloves$Drawer", name := "setOf", desc := "(I)I" } : Jvm.MethodName)) ∈ gtbl := mg (mm_4 (List.mem_of_getElem? (i := 59) rfl)) rfl
set_option maxRecDepth 20000 in
theorem m_4_60 : (Jvm.Cond.methodLink "DrawerGloves$Chances" (36 : Nat) ({ cls := "DrawerGloves$Chances", name := "lossOf", desc := "(LDrawerGloves$Glove;II)I" } : Jvm.MethodName)) ∈ gtbl := mg (mm_4 (List.mem_of_getElem? (i := 60) rfl)) rfl
set_option maxRecDepth 20000 in
theorem m_4_61 : (Jvm.Cond.static ({ cls := "DrawerGloves$Chances", name := "lossOf", desc := "(LDrawerGloves$Glove;II)I" } : Jvm.MethodName)) ∈ gtbl := mg (mm_4 (List.mem_of_getElem? (i := 61) rfl)) rfl
set_option maxRecDepth 20000 in
theorem m_4_62 : (Jvm.Cond.code ({ cls := "DrawerGloves$Chances", name := "lossOf", desc := "(LDrawerGloves$Glove;II)I" } : Jvm.MethodName) prog_3_method_3_code (3 : Nat) (Option.some Jvm.ClassFile.FieldType.int)) ∈ gtbl := mg (mm_4 (List.mem_of_getElem? (i := 62) rfl)) rfl
set_option maxRecDepth 20000 in
theorem m_4_63 : (Jvm.Cond.methodLink "DrawerGloves$Chances" (55 : Nat) ({ cls := "DrawerGloves$Glove", name := "isOf", desc := "(I)Z" } : Jvm.MethodName)) ∈ gtbl := mg (mm_4 (List.mem_of_getElem? (i := 63) rfl)) rfl
set_option maxRecDepth 20000 in
theorem m_4_64 : (Jvm.Cond.methodLink "DrawerGloves$Chances" (59 : Nat) ({ cls := "java/lang/Math", name := "max", desc := "(II)I" } : Jvm.MethodName)) ∈ gtbl := mg (mm_4 (List.mem_of_getElem? (i := 64) rfl)) rfl
set_option maxRecDepth 20000 in
theorem m_4_65 : (Jvm.Cond.constantLong "DrawerGloves$Chances" (40 : Nat) (12 : Int64)) ∈ gtbl := mg (mm_4 (List.mem_of_getElem? (i := 65) rfl)) rfl
set_option maxRecDepth 20000 in
theorem m_4_66 : (Jvm.Cond.methodLink "DrawerGloves$Chances" (42 : Nat) ({ cls := "DrawerGloves$Chances", name := "waysTo", desc := "(LDrawerGloves$Drawer;II)J" } : Jvm.MethodName)) ∈ gtbl := mg (mm_4 (List.mem_of_getElem? (i := 66) rfl)) rfl
set_option maxRecDepth 20000 in
theorem m_4_68 : (Jvm.Cond.instanceMethod ({ cls := "DrawerGloves$Chances", name := "waysTo", desc := "(LDrawerGloves$Drawer;II)J" } : Jvm.MethodName)) ∈ gtbl := mg (mm_4 (List.mem_of_getElem? (i := 68) rfl)) rfl
set_option maxRecDepth 20000 in
theorem m_4_69 : (Jvm.Cond.code ({ cls := "DrawerGloves$Chances", name := "waysTo", desc := "(LDrawerGloves$Drawer;II)J" } : Jvm.MethodName) prog_3_method_4_code (7 : Nat) (Option.some Jvm.ClassFile.FieldType.long)) ∈ gtbl := mg (mm_4 (List.mem_of_getElem? (i := 69) rfl)) rfl
set_option maxRecDepth 20000 in
theorem m_4_70 : (Jvm.Cond.methodLink "DrawerGloves$Chances" (46 : Nat) ({ cls := "DrawerGloves$Chances", name := "commonDivisor", desc := "(JJ)J" } : Jvm.MethodName)) ∈ gtbl := mg (mm_4 (List.mem_of_getElem? (i := 70) rfl)) rfl
set_option maxRecDepth 20000 in
theorem m_4_71 : (Jvm.Cond.static ({ cls := "DrawerGloves$Chances", name := "commonDivisor", desc := "(JJ)J" } : Jvm.MethodName)) ∈ gtbl := mg (mm_4 (List.mem_of_getElem? (i := 71) rfl)) rfl
set_option maxRecDepth 20000 in
theorem m_4_72 : (Jvm.Cond.code ({ cls := "DrawerGloves$Chances", name := "commonDivisor", desc := "(JJ)J" } : Jvm.MethodName) prog_3_method_5_code (7 : Nat) (Option.some Jvm.ClassFile.FieldType.long)) ∈ gtbl := mg (mm_4 (List.mem_of_getElem? (i := 72) rfl)) rfl
set_option maxRecDepth 20000 in
theorem m_4_73 : (Jvm.Cond.methodLink "DrawerGlovesLaw" (150 : Nat) ({ cls := "DrawerGloves", name := "mid", desc := "(II)I" } : Jvm.MethodName)) ∈ gtbl := mg (mm_4 (List.mem_of_getElem? (i := 73) rfl)) rfl
set_option maxRecDepth 20000 in
theorem m_4_74 : (Jvm.Cond.instanceMethod ({ cls := "DrawerGloves", name := "mid", desc := "(II)I" } : Jvm.MethodName)) ∈ gtbl := mg (mm_4 (List.mem_of_getElem? (i := 74) rfl)) rfl
set_option maxRecDepth 20000 in
theorem m_4_75 : (Jvm.Cond.selects "DrawerGloves" ({ cls := "DrawerGloves", name := "mid", desc := "(II)I" } : Jvm.MethodName) ({ cls := "DrawerGloves", name := "mid", desc := "(II)I" } : Jvm.MethodName)) ∈ gtbl := mg (mm_4 (List.mem_of_getElem? (i := 75) rfl)) rfl
set_option maxRecDepth 20000 in
theorem m_4_76 : (Jvm.Cond.code ({ cls := "DrawerGloves", name := "mid", desc := "(II)I" } : Jvm.MethodName) prog_1_method_35_code (3 : Nat) (Option.some Jvm.ClassFile.FieldType.int)) ∈ gtbl := mg (mm_4 (List.mem_of_getElem? (i := 76) rfl)) rfl
set_option maxRecDepth 20000 in
theorem m_4_77 : (Jvm.Cond.methodLink "DrawerGlovesLaw" (154 : Nat) ({ cls := "DrawerGloves", name := "lots", desc := "(II)I" } : Jvm.MethodName)) ∈ gtbl := mg (mm_4 (List.mem_of_getElem? (i := 77) rfl)) rfl
set_option maxRecDepth 20000 in
theorem m_4_78 : (Jvm.Cond.instanceMethod ({ cls := "DrawerGloves", name := "lots", desc := "(II)I" } : Jvm.MethodName)) ∈ gtbl := mg (mm_4 (List.mem_of_getElem? (i := 78) rfl)) rfl
set_option maxRecDepth 20000 in
theorem m_4_79 : (Jvm.Cond.selects "DrawerGloves" ({ cls := "DrawerGloves", name := "lots", desc := "(II)I" } : Jvm.MethodName) ({ cls := "DrawerGloves", name := "lots", desc := "(II)I" } : Jvm.MethodName)) ∈ gtbl := mg (mm_4 (List.mem_of_getElem? (i := 79) rfl)) rfl
set_option maxRecDepth 20000 in
theorem m_4_80 : (Jvm.Cond.code ({ cls := "DrawerGloves", name := "lots", desc := "(II)I" } : Jvm.MethodName) prog_1_method_36_code (6 : Nat) (Option.some Jvm.ClassFile.FieldType.int)) ∈ gtbl := mg (mm_4 (List.mem_of_getElem? (i := 80) rfl)) rfl
set_option maxRecDepth 20000 in
theorem m_4_81 : (Jvm.Cond.constantLong "DrawerGloves" (305 : Nat) (2147483647 : Int64)) ∈ gtbl := mg (mm_4 (List.mem_of_getElem? (i := 81) rfl)) rfl
set_option maxRecDepth 20000 in
theorem m_4_82 : (Jvm.Cond.constantLong "DrawerGloves" (307 : Nat) (48271 : Int64)) ∈ gtbl := mg (mm_4 (List.mem_of_getElem? (i := 82) rfl)) rfl
set_option maxRecDepth 20000 in
theorem m_4_83 : (Jvm.Cond.constantLong "DrawerGloves" (309 : Nat) (8 : Int64)) ∈ gtbl := mg (mm_4 (List.mem_of_getElem? (i := 83) rfl)) rfl
set_option maxRecDepth 20000 in
theorem m_4_84 : (Jvm.Cond.methodLink "DrawerGloves" (311 : Nat) ({ cls := "DrawerGloves$Drawer", name := "actByLot", desc := "(J)V" } : Jvm.MethodName)) ∈ gtbl := mg (mm_4 (List.mem_of_getElem? (i := 84) rfl)) rfl
set_option maxRecDepth 20000 in
theorem m_4_85 : (Jvm.Cond.instanceMethod ({ cls := "DrawerGloves$Drawer", name := "actByLot", desc := "(J)V" } : Jvm.MethodName)) ∈ gtbl := mg (mm_4 (List.mem_of_getElem? (i := 85) rfl)) rfl
set_option maxRecDepth 20000 in
theorem m_4_86 : (Jvm.Cond.selects "DrawerGloves$Drawer" ({ cls := "DrawerGloves$Drawer", name := "actByLot", desc := "(J)V" } : Jvm.MethodName) ({ cls := "DrawerGloves$Drawer", name := "actByLot", desc := "(J)V" } : Jvm.MethodName)) ∈ gtbl := mg (mm_4 (List.mem_of_getElem? (i := 86) rfl)) rfl
set_option maxRecDepth 20000 in
theorem m_4_87 : (Jvm.Cond.code ({ cls := "DrawerGloves$Drawer", name := "actByLot", desc := "(J)V" } : Jvm.MethodName) prog_5_method_15_code (4 : Nat) (Option.none : Option Jvm.ClassFile.FieldType)) ∈ gtbl := mg (mm_4 (List.mem_of_getElem? (i := 87) rfl)) rfl
set_option maxRecDepth 20000 in
theorem m_4_88 : (Jvm.Cond.methodLink "DrawerGloves$Drawer" (101 : Nat) ({ cls := "DrawerGloves$Drawer", name := "canBeLost", desc := "(I)Z" } : Jvm.MethodName)) ∈ gtbl := mg (mm_4 (List.mem_of_getElem? (i := 88) rfl)) rfl
set_option maxRecDepth 20000 in
theorem m_4_89 : (Jvm.Cond.methodLink "DrawerGloves$Drawer" (104 : Nat) ({ cls := "DrawerGloves$Drawer", name := "act", desc := "(III)V" } : Jvm.MethodName)) ∈ gtbl := mg (mm_4 (List.mem_of_getElem? (i := 89) rfl)) rfl
set_option maxRecDepth 20000 in
theorem m_4_90 : (Jvm.Cond.methodLink "DrawerGloves$Drawer" (107 : Nat) ({ cls := "DrawerGloves$Drawer", name := "hasRoom", desc := "()Z" } : Jvm.MethodName)) ∈ gtbl := mg (mm_4 (List.mem_of_getElem? (i := 90) rfl)) rfl
set_option maxRecDepth 20000 in
theorem m_4_91 : (Jvm.Cond.methodLink "DrawerGloves$Drawer" (111 : Nat) ({ cls := "DrawerGloves$Drawer", name := "wearFirstPair", desc := "()V" } : Jvm.MethodName)) ∈ gtbl := mg (mm_4 (List.mem_of_getElem? (i := 91) rfl)) rfl
set_option maxRecDepth 20000 in
theorem m_4_93 : (Jvm.Cond.instanceMethod ({ cls := "DrawerGloves$Drawer", name := "wearFirstPair", desc := "()V" } : Jvm.MethodName)) ∈ gtbl := mg (mm_4 (List.mem_of_getElem? (i := 93) rfl)) rfl
set_option maxRecDepth 20000 in
theorem m_4_94 : (Jvm.Cond.code ({ cls := "DrawerGloves$Drawer", name := "wearFirstPair", desc := "()V" } : Jvm.MethodName) prog_5_method_16_code (3 : Nat) (Option.none : Option Jvm.ClassFile.FieldType)) ∈ gtbl := mg (mm_4 (List.mem_of_getElem? (i := 94) rfl)) rfl
set_option maxRecDepth 20000 in
theorem m_4_95 : (Jvm.Cond.methodLink "DrawerGlovesLaw" (158 : Nat) ({ cls := "DrawerGloves", name := "asked", desc := "()I" } : Jvm.MethodName)) ∈ gtbl := mg (mm_4 (List.mem_of_getElem? (i := 95) rfl)) rfl
set_option maxRecDepth 20000 in
theorem m_4_96 : (Jvm.Cond.instanceMethod ({ cls := "DrawerGloves", name := "asked", desc := "()I" } : Jvm.MethodName)) ∈ gtbl := mg (mm_4 (List.mem_of_getElem? (i := 96) rfl)) rfl
set_option maxRecDepth 20000 in
theorem m_4_97 : (Jvm.Cond.selects "DrawerGloves" ({ cls := "DrawerGloves", name := "asked", desc := "()I" } : Jvm.MethodName) ({ cls := "DrawerGloves", name := "asked", desc := "()I" } : Jvm.MethodName)) ∈ gtbl := mg (mm_4 (List.mem_of_getElem? (i := 97) rfl)) rfl
set_option maxRecDepth 20000 in
theorem m_4_98 : (Jvm.Cond.code ({ cls := "DrawerGloves", name := "asked", desc := "()I" } : Jvm.MethodName) prog_1_method_37_code (1 : Nat) (Option.some Jvm.ClassFile.FieldType.int)) ∈ gtbl := mg (mm_4 (List.mem_of_getElem? (i := 98) rfl)) rfl
set_option maxRecDepth 20000 in
theorem m_4_99 : (Jvm.Cond.methodLink "DrawerGlovesLaw" (162 : Nat) ({ cls := "DrawerGloves", name := "upper", desc := "()J" } : Jvm.MethodName)) ∈ gtbl := mg (mm_4 (List.mem_of_getElem? (i := 99) rfl)) rfl
set_option maxRecDepth 20000 in
theorem m_4_100 : (Jvm.Cond.instanceMethod ({ cls := "DrawerGloves", name := "upper", desc := "()J" } : Jvm.MethodName)) ∈ gtbl := mg (mm_4 (List.mem_of_getElem? (i := 100) rfl)) rfl
set_option maxRecDepth 20000 in
theorem m_4_101 : (Jvm.Cond.selects "DrawerGloves" ({ cls := "DrawerGloves", name := "upper", desc := "()J" } : Jvm.MethodName) ({ cls := "DrawerGloves", name := "upper", desc := "()J" } : Jvm.MethodName)) ∈ gtbl := mg (mm_4 (List.mem_of_getElem? (i := 101) rfl)) rfl
set_option maxRecDepth 20000 in
theorem m_4_102 : (Jvm.Cond.code ({ cls := "DrawerGloves", name := "upper", desc := "()J" } : Jvm.MethodName) prog_1_method_38_code (1 : Nat) (Option.some Jvm.ClassFile.FieldType.long)) ∈ gtbl := mg (mm_4 (List.mem_of_getElem? (i := 102) rfl)) rfl
set_option maxRecDepth 20000 in
theorem m_4_103 : (Jvm.Cond.methodLink "DrawerGlovesLaw" (167 : Nat) ({ cls := "DrawerGloves", name := "lower", desc := "()J" } : Jvm.MethodName)) ∈ gtbl := mg (mm_4 (List.mem_of_getElem? (i := 103) rfl)) rfl
set_option maxRecDepth 20000 in
theorem m_4_104 : (Jvm.Cond.instanceMethod ({ cls := "DrawerGloves", name := "lower", desc := "()J" } : Jvm.MethodName)) ∈ gtbl := mg (mm_4 (List.mem_of_getElem? (i := 104) rfl)) rfl
set_option maxRecDepth 20000 in
theorem m_4_105 : (Jvm.Cond.selects "DrawerGloves" ({ cls := "DrawerGloves", name := "lower", desc := "()J" } : Jvm.MethodName) ({ cls := "DrawerGloves", name := "lower", desc := "()J" } : Jvm.MethodName)) ∈ gtbl := mg (mm_4 (List.mem_of_getElem? (i := 105) rfl)) rfl
set_option maxRecDepth 20000 in
theorem m_4_106 : (Jvm.Cond.code ({ cls := "DrawerGloves", name := "lower", desc := "()J" } : Jvm.MethodName) prog_1_method_39_code (1 : Nat) (Option.some Jvm.ClassFile.FieldType.long)) ∈ gtbl := mg (mm_4 (List.mem_of_getElem? (i := 106) rfl)) rfl
set_option maxRecDepth 20000 in
theorem m_4_107 : (Jvm.Cond.methodLink "DrawerGlovesLaw" (171 : Nat) ({ cls := "DrawerGloves", name := "count", desc := "(I)I" } : Jvm.MethodName)) ∈ gtbl := mg (mm_4 (List.mem_of_getElem? (i := 107) rfl)) rfl
set_option maxRecDepth 20000 in
theorem m_4_108 : (Jvm.Cond.instanceMethod ({ cls := "DrawerGloves", name := "count", desc := "(I)I" } : Jvm.MethodName)) ∈ gtbl := mg (mm_4 (List.mem_of_getElem? (i := 108) rfl)) rfl
set_option maxRecDepth 20000 in
theorem m_4_109 : (Jvm.Cond.selects "DrawerGloves" ({ cls := "DrawerGloves", name := "count", desc := "(I)I" } : Jvm.MethodName) ({ cls := "DrawerGloves", name := "count", desc := "(I)I" } : Jvm.MethodName)) ∈ gtbl := mg (mm_4 (List.mem_of_getElem? (i := 109) rfl)) rfl
set_option maxRecDepth 20000 in
theorem m_4_110 : (Jvm.Cond.code ({ cls := "DrawerGloves", name := "count", desc := "(I)I" } : Jvm.MethodName) prog_1_method_40_code (2 : Nat) (Option.some Jvm.ClassFile.FieldType.int)) ∈ gtbl := mg (mm_4 (List.mem_of_getElem? (i := 110) rfl)) rfl
set_option maxRecDepth 20000 in
theorem m_4_111 : (Jvm.Cond.methodLink "DrawerGloves" (325 : Nat) ({ cls := "DrawerGloves$Drawer", name := "allWear", desc := "()I" } : Jvm.MethodName)) ∈ gtbl := mg (mm_4 (List.mem_of_getElem? (i := 111) rfl)) rfl
set_option maxRecDepth 20000 in
theorem m_4_112 : (Jvm.Cond.instanceMethod ({ cls := "DrawerGloves$Drawer", name := "allWear", desc := "()I" } : Jvm.MethodName)) ∈ gtbl := mg (mm_4 (List.mem_of_getElem? (i := 112) rfl)) rfl
set_option maxRecDepth 20000 in
theorem m_4_113 : (Jvm.Cond.selects "DrawerGloves$Drawer" ({ cls := "DrawerGloves$Drawer", name := "allWear", desc := "()I" } : Jvm.MethodName) ({ cls := "DrawerGloves$Drawer", name := "allWear", desc := "()I" } : Jvm.MethodName)) ∈ gtbl := mg (mm_4 (List.mem_of_getElem? (i := 113) rfl)) rfl
set_option maxRecDepth 20000 in
theorem m_4_114 : (Jvm.Cond.code ({ cls := "DrawerGloves$Drawer", name := "allWear", desc := "()I" } : Jvm.MethodName) prog_5_method_10_code (3 : Nat) (Option.some Jvm.ClassFile.FieldType.int)) ∈ gtbl := mg (mm_4 (List.mem_of_getElem? (i := 114) rfl)) rfl
set_option maxRecDepth 20000 in
theorem m_4_115 : (Jvm.Cond.methodLink "DrawerGloves" (328 : Nat) ({ cls := "DrawerGloves$Drawer", name := "howManyOf", desc := "(I)I" } : Jvm.MethodName)) ∈ gtbl := mg (mm_4 (List.mem_of_getElem? (i := 115) rfl)) rfl
set_option maxRecDepth 20000 in
theorem m_4_116 : (Jvm.Cond.instanceMethod ({ cls := "DrawerGloves$Drawer", name := "howManyOf", desc := "(I)I" } : Jvm.MethodName)) ∈ gtbl := mg (mm_4 (List.mem_of_getElem? (i := 116) rfl)) rfl
set_option maxRecDepth 20000 in
theorem m_4_117 : (Jvm.Cond.selects "DrawerGloves$Drawer" ({ cls := "DrawerGloves$Drawer", name := "howManyOf", desc := "(I)I" } : Jvm.MethodName) ({ cls := "DrawerGloves$Drawer", name := "howManyOf", desc := "(I)I" } : Jvm.MethodName)) ∈ gtbl := mg (mm_4 (List.mem_of_getElem? (i := 117) rfl)) rfl
set_option maxRecDepth 20000 in
theorem m_4_118 : (Jvm.Cond.code ({ cls := "DrawerGloves$Drawer", name := "howManyOf", desc := "(I)I" } : Jvm.MethodName) prog_5_method_11_code (4 : Nat) (Option.some Jvm.ClassFile.FieldType.int)) ∈ gtbl := mg (mm_4 (List.mem_of_getElem? (i := 118) rfl)) rfl
set_option maxRecDepth 20000 in
theorem m_4_119 : (Jvm.Cond.methodLink "DrawerGloves$Drawer" (87 : Nat) ({ cls := "DrawerGloves$Glove", name := "isOf", desc := "(I)Z" } : Jvm.MethodName)) ∈ gtbl := mg (mm_4 (List.mem_of_getElem? (i := 119) rfl)) rfl
set_option maxRecDepth 20000 in
theorem m_4_120 : (Jvm.Cond.methodLink "DrawerGloves" (331 : Nat) ({ cls := "DrawerGloves$Rows", name := "howManyThere", desc := "()I" } : Jvm.MethodName)) ∈ gtbl := mg (mm_4 (List.mem_of_getElem? (i := 120) rfl)) rfl
set_option maxRecDepth 20000 in
theorem m_4_121 : (Jvm.Cond.instanceMethod ({ cls := "DrawerGloves$Rows", name := "howManyThere", desc := "()I" } : Jvm.MethodName)) ∈ gtbl := mg (mm_4 (List.mem_of_getElem? (i := 121) rfl)) rfl
set_option maxRecDepth 20000 in
theorem m_4_122 : (Jvm.Cond.selects "DrawerGloves$Rows" ({ cls := "DrawerGloves$Rows", name := "howManyThere", desc := "()I" } : Jvm.MethodName) ({ cls := "DrawerGloves$Rows", name := "howManyThere", desc := "()I" } : Jvm.MethodName)) ∈ gtbl := mg (mm_4 (List.mem_of_getElem? (i := 122) rfl)) rfl
set_option maxRecDepth 20000 in
theorem m_4_123 : (Jvm.Cond.code ({ cls := "DrawerGloves$Rows", name := "howManyThere", desc := "()I" } : Jvm.MethodName) prog_11_method_13_code (3 : Nat) (Option.some Jvm.ClassFile.FieldType.int)) ∈ gtbl := mg (mm_4 (List.mem_of_getElem? (i := 123) rfl)) rfl
set_option maxRecDepth 20000 in
theorem m_4_124 : (Jvm.Cond.methodLink "DrawerGloves$Rows" (58 : Nat) ({ cls := "DrawerGloves$Rows", name := "isThere", desc := "(I)Z" } : Jvm.MethodName)) ∈ gtbl := mg (mm_4 (List.mem_of_getElem? (i := 124) rfl)) rfl
set_option maxRecDepth 20000 in
theorem m_4_125 : (Jvm.Cond.methodLink "DrawerGloves" (334 : Nat) ({ cls := "DrawerGloves", name := "howManyKept", desc := "()I" } : Jvm.MethodName)) ∈ gtbl := mg (mm_4 (List.mem_of_getElem? (i := 125) rfl)) rfl
set_option maxRecDepth 20000 in
theorem m_4_127 : (Jvm.Cond.instanceMethod ({ cls := "DrawerGloves", name := "howManyKept", desc := "()I" } : Jvm.MethodName)) ∈ gtbl := mg (mm_4 (List.mem_of_getElem? (i := 127) rfl)) rfl
set_option maxRecDepth 20000 in
theorem m_4_128 : (Jvm.Cond.code ({ cls := "DrawerGloves", name := "howManyKept", desc := "()I" } : Jvm.MethodName) prog_1_method_51_code (3 : Nat) (Option.some Jvm.ClassFile.FieldType.int)) ∈ gtbl := mg (mm_4 (List.mem_of_getElem? (i := 128) rfl)) rfl
set_option maxRecDepth 20000 in
theorem m_4_129 : (Jvm.Cond.methodLink "DrawerGlovesLaw" (175 : Nat) ({ cls := "DrawerGloves", name := "finding", desc := "()I" } : Jvm.MethodName)) ∈ gtbl := mg (mm_4 (List.mem_of_getElem? (i := 129) rfl)) rfl
set_option maxRecDepth 20000 in
theorem m_4_130 : (Jvm.Cond.instanceMethod ({ cls := "DrawerGloves", name := "finding", desc := "()I" } : Jvm.MethodName)) ∈ gtbl := mg (mm_4 (List.mem_of_getElem? (i := 130) rfl)) rfl
set_option maxRecDepth 20000 in
theorem m_4_131 : (Jvm.Cond.selects "DrawerGloves" ({ cls := "DrawerGloves", name := "finding", desc := "()I" } : Jvm.MethodName) ({ cls := "DrawerGloves", name := "finding", desc := "()I" } : Jvm.MethodName)) ∈ gtbl := mg (mm_4 (List.mem_of_getElem? (i := 131) rfl)) rfl
set_option maxRecDepth 20000 in
theorem m_4_132 : (Jvm.Cond.code ({ cls := "DrawerGloves", name := "finding", desc := "()I" } : Jvm.MethodName) prog_1_method_41_code (1 : Nat) (Option.some Jvm.ClassFile.FieldType.int)) ∈ gtbl := mg (mm_4 (List.mem_of_getElem? (i := 132) rfl)) rfl
set_option maxRecDepth 20000 in
theorem m_4_133 : (Jvm.Cond.methodLink "DrawerGlovesLaw" (179 : Nat) ({ cls := "DrawerGloves", name := "findings", desc := "(I)I" } : Jvm.MethodName)) ∈ gtbl := mg (mm_4 (List.mem_of_getElem? (i := 133) rfl)) rfl
set_option maxRecDepth 20000 in
theorem m_4_134 : (Jvm.Cond.instanceMethod ({ cls := "DrawerGloves", name := "findings", desc := "(I)I" } : Jvm.MethodName)) ∈ gtbl := mg (mm_4 (List.mem_of_getElem? (i := 134) rfl)) rfl
set_option maxRecDepth 20000 in
theorem m_4_135 : (Jvm.Cond.selects "DrawerGloves" ({ cls := "DrawerGloves", name := "findings", desc := "(I)I" } : Jvm.MethodName) ({ cls := "DrawerGloves", name := "findings", desc := "(I)I" } : Jvm.MethodName)) ∈ gtbl := mg (mm_4 (List.mem_of_getElem? (i := 135) rfl)) rfl
set_option maxRecDepth 20000 in
theorem m_4_136 : (Jvm.Cond.code ({ cls := "DrawerGloves", name := "findings", desc := "(I)I" } : Jvm.MethodName) prog_1_method_42_code (2 : Nat) (Option.some Jvm.ClassFile.FieldType.int)) ∈ gtbl := mg (mm_4 (List.mem_of_getElem? (i := 136) rfl)) rfl
set_option maxRecDepth 20000 in
theorem m_4_137 : (Jvm.Cond.methodLink "DrawerGlovesLaw" (183 : Nat) ({ cls := "DrawerGloves", name := "digest", desc := "()J" } : Jvm.MethodName)) ∈ gtbl := mg (mm_4 (List.mem_of_getElem? (i := 137) rfl)) rfl
set_option maxRecDepth 20000 in
theorem m_4_138 : (Jvm.Cond.instanceMethod ({ cls := "DrawerGloves", name := "digest", desc := "()J" } : Jvm.MethodName)) ∈ gtbl := mg (mm_4 (List.mem_of_getElem? (i := 138) rfl)) rfl
set_option maxRecDepth 20000 in
theorem m_4_139 : (Jvm.Cond.selects "DrawerGloves" ({ cls := "DrawerGloves", name := "digest", desc := "()J" } : Jvm.MethodName) ({ cls := "DrawerGloves", name := "digest", desc := "()J" } : Jvm.MethodName)) ∈ gtbl := mg (mm_4 (List.mem_of_getElem? (i := 139) rfl)) rfl
set_option maxRecDepth 20000 in
theorem m_4_140 : (Jvm.Cond.code ({ cls := "DrawerGloves", name := "digest", desc := "()J" } : Jvm.MethodName) prog_1_method_43_code (5 : Nat) (Option.some Jvm.ClassFile.FieldType.long)) ∈ gtbl := mg (mm_4 (List.mem_of_getElem? (i := 140) rfl)) rfl
set_option maxRecDepth 20000 in
theorem m_4_141 : (Jvm.Cond.constantLong "DrawerGloves" (337 : Nat) (17 : Int64)) ∈ gtbl := mg (mm_4 (List.mem_of_getElem? (i := 141) rfl)) rfl
set_option maxRecDepth 20000 in
theorem m_4_142 : (Jvm.Cond.constantLong "DrawerGloves" (339 : Nat) (31 : Int64)) ∈ gtbl := mg (mm_4 (List.mem_of_getElem? (i := 142) rfl)) rfl
set_option maxRecDepth 20000 in
theorem m_4_143 : (Jvm.Cond.methodLink "DrawerGloves" (341 : Nat) ({ cls := "DrawerGloves", name := "count", desc := "(I)I" } : Jvm.MethodName)) ∈ gtbl := mg (mm_4 (List.mem_of_getElem? (i := 143) rfl)) rfl
set_option maxRecDepth 20000 in
theorem m_4_144 : (Jvm.Cond.methodLink "DrawerGloves" (344 : Nat) ({ cls := "DrawerGloves$Rows", name := "digestOn", desc := "(J)J" } : Jvm.MethodName)) ∈ gtbl := mg (mm_4 (List.mem_of_getElem? (i := 144) rfl)) rfl
set_option maxRecDepth 20000 in
theorem m_4_145 : (Jvm.Cond.instanceMethod ({ cls := "DrawerGloves$Rows", name := "digestOn", desc := "(J)J" } : Jvm.MethodName)) ∈ gtbl := mg (mm_4 (List.mem_of_getElem? (i := 145) rfl)) rfl
set_option maxRecDepth 20000 in
theorem m_4_146 : (Jvm.Cond.selects "DrawerGloves$Rows" ({ cls := "DrawerGloves$Rows", name := "digestOn", desc := "(J)J" } : Jvm.MethodName) ({ cls := "DrawerGloves$Rows", name := "digestOn", desc := "(J)J" } : Jvm.MethodName)) ∈ gtbl := mg (mm_4 (List.mem_of_getElem? (i := 146) rfl)) rfl
set_option maxRecDepth 20000 in
theorem m_4_147 : (Jvm.Cond.code ({ cls := "DrawerGloves$Rows", name := "digestOn", desc := "(J)J" } : Jvm.MethodName) prog_11_method_14_code (5 : Nat) (Option.some Jvm.ClassFile.FieldType.long)) ∈ gtbl := mg (mm_4 (List.mem_of_getElem? (i := 147) rfl)) rfl
set_option maxRecDepth 20000 in
theorem m_4_148 : (Jvm.Cond.constantLong "DrawerGloves$Rows" (61 : Nat) (31 : Int64)) ∈ gtbl := mg (mm_4 (List.mem_of_getElem? (i := 148) rfl)) rfl
set_option maxRecDepth 20000 in
theorem m_4_149 : (Jvm.Cond.classLink "DrawerGlovesLaw" (10 : Nat) "DrawerGlovesModel") ∈ gtbl := mg (mm_4 (List.mem_of_getElem? (i := 149) rfl)) rfl
set_option maxRecDepth 20000 in
theorem m_4_150 : (Jvm.Cond.instantiable "DrawerGlovesModel" (36 : Nat)) ∈ gtbl := mg (mm_4 (List.mem_of_getElem? (i := 150) rfl)) rfl
set_option maxRecDepth 20000 in
theorem m_4_151 : (Jvm.Cond.methodLink "DrawerGlovesLaw" (12 : Nat) ({ cls := "DrawerGlovesModel", name := "<init>", desc := "()V" } : Jvm.MethodName)) ∈ gtbl := mg (mm_4 (List.mem_of_getElem? (i := 151) rfl)) rfl
set_option maxRecDepth 20000 in
theorem m_4_152 : (Jvm.Cond.instanceMethod ({ cls := "DrawerGlovesModel", name := "<init>", desc := "()V" } : Jvm.MethodName)) ∈ gtbl := mg (mm_4 (List.mem_of_getElem? (i := 152) rfl)) rfl
set_option maxRecDepth 20000 in
theorem m_4_153 : (Jvm.Cond.code ({ cls := "DrawerGlovesModel", name := "<init>", desc := "()V" } : Jvm.MethodName) prog_13_method_1_code (2 : Nat) (Option.none : Option Jvm.ClassFile.FieldType)) ∈ gtbl := mg (mm_4 (List.mem_of_getElem? (i := 153) rfl)) rfl
set_option maxRecDepth 20000 in
theorem m_4_154 : (Jvm.Cond.methodLink "DrawerGlovesModel" (1 : Nat) ({ cls := "java/lang/Object", name := "<init>", desc := "()V" } : Jvm.MethodName)) ∈ gtbl := mg (mm_4 (List.mem_of_getElem? (i := 154) rfl)) rfl
set_option maxRecDepth 20000 in
theorem m_4_155 : (Jvm.Cond.fieldLink "DrawerGlovesModel" (88 : Nat) "DrawerGlovesModel" "asked" "I") ∈ gtbl := mg (mm_4 (List.mem_of_getElem? (i := 155) rfl)) rfl
set_option maxRecDepth 20000 in
theorem m_4_156 : (Jvm.Cond.fieldLink "DrawerGlovesModel" (91 : Nat) "DrawerGlovesModel" "up" "J") ∈ gtbl := mg (mm_4 (List.mem_of_getElem? (i := 156) rfl)) rfl
set_option maxRecDepth 20000 in
theorem m_4_157 : (Jvm.Cond.fieldLink "DrawerGlovesModel" (80 : Nat) "DrawerGlovesModel" "down" "J") ∈ gtbl := mg (mm_4 (List.mem_of_getElem? (i := 157) rfl)) rfl
set_option maxRecDepth 20000 in
theorem m_4_158 : (Jvm.Cond.fieldLink "DrawerGlovesModel" (84 : Nat) "DrawerGlovesModel" "latest" "I") ∈ gtbl := mg (mm_4 (List.mem_of_getElem? (i := 158) rfl)) rfl
set_option maxRecDepth 20000 in
theorem m_4_159 : (Jvm.Cond.fieldLink "DrawerGlovesModel" (7 : Nat) "DrawerGlovesModel" "found" "[I") ∈ gtbl := mg (mm_4 (List.mem_of_getElem? (i := 159) rfl)) rfl
set_option maxRecDepth 20000 in
theorem m_4_160 : (Jvm.Cond.fieldLink "DrawerGlovesModel" (13 : Nat) "DrawerGlovesModel" "cells" "[I") ∈ gtbl := mg (mm_4 (List.mem_of_getElem? (i := 160) rfl)) rfl
set_option maxRecDepth 20000 in
theorem m_4_161 : (Jvm.Cond.fieldLink "DrawerGlovesModel" (16 : Nat) "DrawerGlovesModel" "rowSize" "[I") ∈ gtbl := mg (mm_4 (List.mem_of_getElem? (i := 161) rfl)) rfl
set_option maxRecDepth 20000 in
theorem m_4_162 : (Jvm.Cond.fieldLink "DrawerGlovesModel" (19 : Nat) "DrawerGlovesModel" "bytes" "[B") ∈ gtbl := mg (mm_4 (List.mem_of_getElem? (i := 162) rfl)) rfl
set_option maxRecDepth 20000 in
theorem m_4_163 : (Jvm.Cond.fieldLink "DrawerGlovesModel" (23 : Nat) "DrawerGlovesModel" "textSize" "[I") ∈ gtbl := mg (mm_4 (List.mem_of_getElem? (i := 163) rfl)) rfl
set_option maxRecDepth 20000 in
theorem m_4_164 : (Jvm.Cond.fieldLink "DrawerGlovesModel" (26 : Nat) "DrawerGlovesModel" "taken" "[I") ∈ gtbl := mg (mm_4 (List.mem_of_getElem? (i := 164) rfl)) rfl
set_option maxRecDepth 20000 in
theorem m_4_165 : (Jvm.Cond.fieldLink "DrawerGlovesModel" (142 : Nat) "DrawerGlovesModel" "draftRoom" "I") ∈ gtbl := mg (mm_4 (List.mem_of_getElem? (i := 165) rfl)) rfl
set_option maxRecDepth 20000 in
theorem m_4_166 : (Jvm.Cond.fieldLink "DrawerGlovesModel" (132 : Nat) "DrawerGlovesModel" "draftGloves" "I") ∈ gtbl := mg (mm_4 (List.mem_of_getElem? (i := 166) rfl)) rfl
set_option maxRecDepth 20000 in
theorem m_4_167 : (Jvm.Cond.fieldLink "DrawerGlovesModel" (29 : Nat) "DrawerGlovesModel" "draftKind" "[I") ∈ gtbl := mg (mm_4 (List.mem_of_getElem? (i := 167) rfl)) rfl
set_option maxRecDepth 20000 in
theorem m_4_168 : (Jvm.Cond.fieldLink "DrawerGlovesModel" (32 : Nat) "DrawerGlovesModel" "draftSort" "[I") ∈ gtbl := mg (mm_4 (List.mem_of_getElem? (i := 168) rfl)) rfl
set_option maxRecDepth 20000 in
theorem m_4_169 : (Jvm.Cond.fieldLink "DrawerGlovesModel" (35 : Nat) "DrawerGlovesModel" "draftHand" "[I") ∈ gtbl := mg (mm_4 (List.mem_of_getElem? (i := 169) rfl)) rfl
set_option maxRecDepth 20000 in
theorem m_4_170 : (Jvm.Cond.fieldLink "DrawerGlovesModel" (38 : Nat) "DrawerGlovesModel" "draftWarm" "[I") ∈ gtbl := mg (mm_4 (List.mem_of_getElem? (i := 170) rfl)) rfl
set_option maxRecDepth 20000 in
theorem m_4_171 : (Jvm.Cond.fieldLink "DrawerGlovesModel" (119 : Nat) "DrawerGlovesModel" "reading" "I") ∈ gtbl := mg (mm_4 (List.mem_of_getElem? (i := 171) rfl)) rfl
set_option maxRecDepth 20000 in
theorem m_4_172 : (Jvm.Cond.fieldLink "DrawerGlovesModel" (116 : Nat) "DrawerGlovesModel" "place" "I") ∈ gtbl := mg (mm_4 (List.mem_of_getElem? (i := 172) rfl)) rfl
set_option maxRecDepth 20000 in
theorem m_4_173 : (Jvm.Cond.fieldLink "DrawerGlovesModel" (126 : Nat) "DrawerGlovesModel" "fault" "I") ∈ gtbl := mg (mm_4 (List.mem_of_getElem? (i := 173) rfl)) rfl
set_option maxRecDepth 20000 in
theorem m_4_174 : (Jvm.Cond.fieldLink "DrawerGlovesModel" (152 : Nat) "DrawerGlovesModel" "room" "I") ∈ gtbl := mg (mm_4 (List.mem_of_getElem? (i := 174) rfl)) rfl
set_option maxRecDepth 20000 in
theorem m_4_175 : (Jvm.Cond.fieldLink "DrawerGlovesModel" (155 : Nat) "DrawerGlovesModel" "gloves" "I") ∈ gtbl := mg (mm_4 (List.mem_of_getElem? (i := 175) rfl)) rfl
set_option maxRecDepth 20000 in
theorem m_4_176 : (Jvm.Cond.fieldLink "DrawerGlovesModel" (41 : Nat) "DrawerGlovesModel" "kind" "[I") ∈ gtbl := mg (mm_4 (List.mem_of_getElem? (i := 176) rfl)) rfl
set_option maxRecDepth 20000 in
theorem m_4_177 : (Jvm.Cond.fieldLink "DrawerGlovesModel" (44 : Nat) "DrawerGlovesModel" "sort" "[I") ∈ gtbl := mg (mm_4 (List.mem_of_getElem? (i := 177) rfl)) rfl
set_option maxRecDepth 20000 in
theorem m_4_178 : (Jvm.Cond.fieldLink "DrawerGlovesModel" (47 : Nat) "DrawerGlovesModel" "hand" "[I") ∈ gtbl := mg (mm_4 (List.mem_of_getElem? (i := 178) rfl)) rfl
set_option maxRecDepth 20000 in
theorem m_4_179 : (Jvm.Cond.fieldLink "DrawerGlovesModel" (50 : Nat) "DrawerGlovesModel" "warm" "[I") ∈ gtbl := mg (mm_4 (List.mem_of_getElem? (i := 179) rfl)) rfl
set_option maxRecDepth 20000 in
theorem m_4_180 : (Jvm.Cond.fieldLink "DrawerGlovesModel" (53 : Nat) "DrawerGlovesModel" "where" "[I") ∈ gtbl := mg (mm_4 (List.mem_of_getElem? (i := 180) rfl)) rfl
set_option maxRecDepth 20000 in
theorem m_4_181 : (Jvm.Cond.fieldLink "DrawerGlovesModel" (56 : Nat) "DrawerGlovesModel" "worn" "[I") ∈ gtbl := mg (mm_4 (List.mem_of_getElem? (i := 181) rfl)) rfl
set_option maxRecDepth 20000 in
theorem m_4_182 : (Jvm.Cond.fieldLink "DrawerGlovesModel" (158 : Nat) "DrawerGlovesModel" "deeds" "I") ∈ gtbl := mg (mm_4 (List.mem_of_getElem? (i := 182) rfl)) rfl
set_option maxRecDepth 20000 in
theorem m_4_183 : (Jvm.Cond.fieldLink "DrawerGlovesModel" (59 : Nat) "DrawerGlovesModel" "deed" "[I") ∈ gtbl := mg (mm_4 (List.mem_of_getElem? (i := 183) rfl)) rfl
set_option maxRecDepth 20000 in
theorem m_4_184 : (Jvm.Cond.fieldLink "DrawerGlovesModel" (62 : Nat) "DrawerGlovesModel" "keptDeeds" "[I") ∈ gtbl := mg (mm_4 (List.mem_of_getElem? (i := 184) rfl)) rfl
set_option maxRecDepth 20000 in
theorem m_4_185 : (Jvm.Cond.fieldLink "DrawerGlovesModel" (65 : Nat) "DrawerGlovesModel" "keptDeed" "[I") ∈ gtbl := mg (mm_4 (List.mem_of_getElem? (i := 185) rfl)) rfl
set_option maxRecDepth 20000 in
theorem m_4_186 : (Jvm.Cond.fieldLink "DrawerGlovesModel" (68 : Nat) "DrawerGlovesModel" "best" "[I") ∈ gtbl := mg (mm_4 (List.mem_of_getElem? (i := 186) rfl)) rfl
set_option maxRecDepth 20000 in
theorem m_4_187 : (Jvm.Cond.fieldLink "DrawerGlovesModel" (71 : Nat) "DrawerGlovesModel" "most" "[I") ∈ gtbl := mg (mm_4 (List.mem_of_getElem? (i := 187) rfl)) rfl
set_option maxRecDepth 20000 in
theorem m_4_188 : (Jvm.Cond.fieldLink "DrawerGlovesModel" (74 : Nat) "DrawerGlovesModel" "twos" "[I") ∈ gtbl := mg (mm_4 (List.mem_of_getElem? (i := 188) rfl)) rfl
set_option maxRecDepth 20000 in
theorem m_4_189 : (Jvm.Cond.fieldLink "DrawerGlovesModel" (215 : Nat) "DrawerGlovesModel" "many" "I") ∈ gtbl := mg (mm_4 (List.mem_of_getElem? (i := 189) rfl)) rfl
set_option maxRecDepth 20000 in
theorem m_4_190 : (Jvm.Cond.fieldLink "DrawerGlovesModel" (77 : Nat) "DrawerGlovesModel" "worth" "[I") ∈ gtbl := mg (mm_4 (List.mem_of_getElem? (i := 190) rfl)) rfl
set_option maxRecDepth 20000 in
theorem m_4_191 : (Jvm.Cond.lays "DrawerGlovesModel" "DrawerGlovesModel" "asked" "I") ∈ gtbl := mg (mm_4 (List.mem_of_getElem? (i := 191) rfl)) rfl
set_option maxRecDepth 20000 in
theorem m_4_193 : (Jvm.Cond.lays "DrawerGlovesModel" "DrawerGlovesModel" "up" "J") ∈ gtbl := mg (mm_4 (List.mem_of_getElem? (i := 193) rfl)) rfl
set_option maxRecDepth 20000 in
theorem m_4_195 : (Jvm.Cond.lays "DrawerGlovesModel" "DrawerGlovesModel" "down" "J") ∈ gtbl := mg (mm_4 (List.mem_of_getElem? (i := 195) rfl)) rfl
set_option maxRecDepth 20000 in
theorem m_4_197 : (Jvm.Cond.lays "DrawerGlovesModel" "DrawerGlovesModel" "latest" "I") ∈ gtbl := mg (mm_4 (List.mem_of_getElem? (i := 197) rfl)) rfl
set_option maxRecDepth 20000 in
theorem m_4_199 : (Jvm.Cond.laysFinal "DrawerGlovesModel" "DrawerGlovesModel" "found" "[I") ∈ gtbl := mg (mm_4 (List.mem_of_getElem? (i := 199) rfl)) rfl
set_option maxRecDepth 20000 in
theorem m_4_201 : (Jvm.Cond.laysFinal "DrawerGlovesModel" "DrawerGlovesModel" "cells" "[I") ∈ gtbl := mg (mm_4 (List.mem_of_getElem? (i := 201) rfl)) rfl
set_option maxRecDepth 20000 in
theorem m_4_203 : (Jvm.Cond.laysFinal "DrawerGlovesModel" "DrawerGlovesModel" "rowSize" "[I") ∈ gtbl := mg (mm_4 (List.mem_of_getElem? (i := 203) rfl)) rfl
set_option maxRecDepth 20000 in
theorem m_4_205 : (Jvm.Cond.laysFinal "DrawerGlovesModel" "DrawerGlovesModel" "bytes" "[B") ∈ gtbl := mg (mm_4 (List.mem_of_getElem? (i := 205) rfl)) rfl
set_option maxRecDepth 20000 in
theorem m_4_207 : (Jvm.Cond.laysFinal "DrawerGlovesModel" "DrawerGlovesModel" "textSize" "[I") ∈ gtbl := mg (mm_4 (List.mem_of_getElem? (i := 207) rfl)) rfl
set_option maxRecDepth 20000 in
theorem m_4_209 : (Jvm.Cond.laysFinal "DrawerGlovesModel" "DrawerGlovesModel" "taken" "[I") ∈ gtbl := mg (mm_4 (List.mem_of_getElem? (i := 209) rfl)) rfl
set_option maxRecDepth 20000 in
theorem m_4_211 : (Jvm.Cond.lays "DrawerGlovesModel" "DrawerGlovesModel" "draftRoom" "I") ∈ gtbl := mg (mm_4 (List.mem_of_getElem? (i := 211) rfl)) rfl
set_option maxRecDepth 20000 in
theorem m_4_213 : (Jvm.Cond.lays "DrawerGlovesModel" "DrawerGlovesModel" "draftGloves" "I") ∈ gtbl := mg (mm_4 (List.mem_of_getElem? (i := 213) rfl)) rfl
set_option maxRecDepth 20000 in
theorem m_4_215 : (Jvm.Cond.laysFinal "DrawerGlovesModel" "DrawerGlovesModel" "draftKind" "[I") ∈ gtbl := mg (mm_4 (List.mem_of_getElem? (i := 215) rfl)) rfl
set_option maxRecDepth 20000 in
theorem m_4_217 : (Jvm.Cond.laysFinal "DrawerGlovesModel" "DrawerGlovesModel" "draftSort" "[I") ∈ gtbl := mg (mm_4 (List.mem_of_getElem? (i := 217) rfl)) rfl
set_option maxRecDepth 20000 in
theorem m_4_219 : (Jvm.Cond.laysFinal "DrawerGlovesModel" "DrawerGlovesModel" "draftHand" "[I") ∈ gtbl := mg (mm_4 (List.mem_of_getElem? (i := 219) rfl)) rfl
set_option maxRecDepth 20000 in
theorem m_4_221 : (Jvm.Cond.laysFinal "DrawerGlovesModel" "DrawerGlovesModel" "draftWarm" "[I") ∈ gtbl := mg (mm_4 (List.mem_of_getElem? (i := 221) rfl)) rfl
set_option maxRecDepth 20000 in
theorem m_4_223 : (Jvm.Cond.lays "DrawerGlovesModel" "DrawerGlovesModel" "reading" "I") ∈ gtbl := mg (mm_4 (List.mem_of_getElem? (i := 223) rfl)) rfl
set_option maxRecDepth 20000 in
theorem m_4_225 : (Jvm.Cond.lays "DrawerGlovesModel" "DrawerGlovesModel" "place" "I") ∈ gtbl := mg (mm_4 (List.mem_of_getElem? (i := 225) rfl)) rfl
set_option maxRecDepth 20000 in
theorem m_4_227 : (Jvm.Cond.lays "DrawerGlovesModel" "DrawerGlovesModel" "fault" "I") ∈ gtbl := mg (mm_4 (List.mem_of_getElem? (i := 227) rfl)) rfl
set_option maxRecDepth 20000 in
theorem m_4_229 : (Jvm.Cond.lays "DrawerGlovesModel" "DrawerGlovesModel" "room" "I") ∈ gtbl := mg (mm_4 (List.mem_of_getElem? (i := 229) rfl)) rfl
set_option maxRecDepth 20000 in
theorem m_4_231 : (Jvm.Cond.lays "DrawerGlovesModel" "DrawerGlovesModel" "gloves" "I") ∈ gtbl := mg (mm_4 (List.mem_of_getElem? (i := 231) rfl)) rfl
set_option maxRecDepth 20000 in
theorem m_4_233 : (Jvm.Cond.laysFinal "DrawerGlovesModel" "DrawerGlovesModel" "kind" "[I") ∈ gtbl := mg (mm_4 (List.mem_of_getElem? (i := 233) rfl)) rfl
set_option maxRecDepth 20000 in
theorem m_4_235 : (Jvm.Cond.laysFinal "DrawerGlovesModel" "DrawerGlovesModel" "sort" "[I") ∈ gtbl := mg (mm_4 (List.mem_of_getElem? (i := 235) rfl)) rfl
set_option maxRecDepth 20000 in
theorem m_4_237 : (Jvm.Cond.laysFinal "DrawerGlovesModel" "DrawerGlovesModel" "hand" "[I") ∈ gtbl := mg (mm_4 (List.mem_of_getElem? (i := 237) rfl)) rfl
set_option maxRecDepth 20000 in
theorem m_4_239 : (Jvm.Cond.laysFinal "DrawerGlovesModel" "DrawerGlovesModel" "warm" "[I") ∈ gtbl := mg (mm_4 (List.mem_of_getElem? (i := 239) rfl)) rfl
set_option maxRecDepth 20000 in
theorem m_5_1 : (Jvm.Cond.laysFinal "DrawerGlovesModel" "DrawerGlovesModel" "where" "[I") ∈ gtbl := mg (mm_5 (List.mem_of_getElem? (i := 1) rfl)) rfl
set_option maxRecDepth 20000 in
theorem m_5_3 : (Jvm.Cond.laysFinal "DrawerGlovesModel" "DrawerGlovesModel" "worn" "[I") ∈ gtbl := mg (mm_5 (List.mem_of_getElem? (i := 3) rfl)) rfl
set_option maxRecDepth 20000 in
theorem m_5_5 : (Jvm.Cond.lays "DrawerGlovesModel" "DrawerGlovesModel" "deeds" "I") ∈ gtbl := mg (mm_5 (List.mem_of_getElem? (i := 5) rfl)) rfl
set_option maxRecDepth 20000 in
theorem m_5_7 : (Jvm.Cond.laysFinal "DrawerGlovesModel" "DrawerGlovesModel" "deed" "[I") ∈ gtbl := mg (mm_5 (List.mem_of_getElem? (i := 7) rfl)) rfl
set_option maxRecDepth 20000 in
theorem m_5_9 : (Jvm.Cond.laysFinal "DrawerGlovesModel" "DrawerGlovesModel" "keptDeeds" "[I") ∈ gtbl := mg (mm_5 (List.mem_of_getElem? (i := 9) rfl)) rfl
set_option maxRecDepth 20000 in
theorem m_5_11 : (Jvm.Cond.laysFinal "DrawerGlovesModel" "DrawerGlovesModel" "keptDeed" "[I") ∈ gtbl := mg (mm_5 (List.mem_of_getElem? (i := 11) rfl)) rfl
set_option maxRecDepth 20000 in
theorem m_5_13 : (Jvm.Cond.laysFinal "DrawerGlovesModel" "DrawerGlovesModel" "best" "[I") ∈ gtbl := mg (mm_5 (List.mem_of_getElem? (i := 13) rfl)) rfl
set_option maxRecDepth 20000 in
theorem m_5_15 : (Jvm.Cond.laysFinal "DrawerGlovesModel" "DrawerGlovesModel" "most" "[I") ∈ gtbl := mg (mm_5 (List.mem_of_getElem? (i := 15) rfl)) rfl
set_option maxRecDepth 20000 in
theorem m_5_17 : (Jvm.Cond.laysFinal "DrawerGlovesModel" "DrawerGlovesModel" "twos" "[I") ∈ gtbl := mg (mm_5 (List.mem_of_getElem? (i := 17) rfl)) rfl
set_option maxRecDepth 20000 in
theorem m_5_19 : (Jvm.Cond.lays "DrawerGlovesModel" "DrawerGlovesModel" "many" "I") ∈ gtbl := mg (mm_5 (List.mem_of_getElem? (i := 19) rfl)) rfl
set_option maxRecDepth 20000 in
theorem m_5_21 : (Jvm.Cond.laysFinal "DrawerGlovesModel" "DrawerGlovesModel" "worth" "[I") ∈ gtbl := mg (mm_5 (List.mem_of_getElem? (i := 21) rfl)) rfl
set_option maxRecDepth 20000 in
theorem m_5_24 : (Jvm.Cond.arrayClass Jvm.ClassFile.FieldType.byte) ∈ gtbl := mg (mm_5 (List.mem_of_getElem? (i := 24) rfl)) rfl
set_option maxRecDepth 20000 in
theorem m_5_25 : (Jvm.Cond.methodLink "DrawerGlovesLaw" (17 : Nat) ({ cls := "DrawerGlovesModel", name := "row", desc := "(II)I" } : Jvm.MethodName)) ∈ gtbl := mg (mm_5 (List.mem_of_getElem? (i := 25) rfl)) rfl
set_option maxRecDepth 20000 in
theorem m_5_26 : (Jvm.Cond.instanceMethod ({ cls := "DrawerGlovesModel", name := "row", desc := "(II)I" } : Jvm.MethodName)) ∈ gtbl := mg (mm_5 (List.mem_of_getElem? (i := 26) rfl)) rfl
set_option maxRecDepth 20000 in
theorem m_5_27 : (Jvm.Cond.selects "DrawerGlovesModel" ({ cls := "DrawerGlovesModel", name := "row", desc := "(II)I" } : Jvm.MethodName) ({ cls := "DrawerGlovesModel", name := "row", desc := "(II)I" } : Jvm.MethodName)) ∈ gtbl := mg (mm_5 (List.mem_of_getElem? (i := 27) rfl)) rfl
set_option maxRecDepth 20000 in
theorem m_5_28 : (Jvm.Cond.code ({ cls := "DrawerGlovesModel", name := "row", desc := "(II)I" } : Jvm.MethodName) prog_13_method_9_code (3 : Nat) (Option.some Jvm.ClassFile.FieldType.int)) ∈ gtbl := mg (mm_5 (List.mem_of_getElem? (i := 28) rfl)) rfl
set_option maxRecDepth 20000 in
theorem m_5_29 : (Jvm.Cond.methodLink "DrawerGlovesModel" (98 : Nat) ({ cls := "DrawerGlovesModel", name := "isRow", desc := "(I)Z" } : Jvm.MethodName)) ∈ gtbl := mg (mm_5 (List.mem_of_getElem? (i := 29) rfl)) rfl
set_option maxRecDepth 20000 in
theorem m_5_30 : (Jvm.Cond.static ({ cls := "DrawerGlovesModel", name := "isRow", desc := "(I)Z" } : Jvm.MethodName)) ∈ gtbl := mg (mm_5 (List.mem_of_getElem? (i := 30) rfl)) rfl
set_option maxRecDepth 20000 in
theorem m_5_31 : (Jvm.Cond.code ({ cls := "DrawerGlovesModel", name := "isRow", desc := "(I)Z" } : Jvm.MethodName) prog_13_method_7_code (1 : Nat) (Option.some Jvm.ClassFile.FieldType.boolean)) ∈ gtbl := mg (mm_5 (List.mem_of_getElem? (i := 31) rfl)) rfl
set_option maxRecDepth 20000 in
theorem m_5_32 : (Jvm.Cond.methodLink "DrawerGlovesModel" (94 : Nat) ({ cls := "DrawerGlovesModel", name := "in", desc := "(III)Z" } : Jvm.MethodName)) ∈ gtbl := mg (mm_5 (List.mem_of_getElem? (i := 32) rfl)) rfl
set_option maxRecDepth 20000 in
theorem m_5_33 : (Jvm.Cond.static ({ cls := "DrawerGlovesModel", name := "in", desc := "(III)Z" } : Jvm.MethodName)) ∈ gtbl := mg (mm_5 (List.mem_of_getElem? (i := 33) rfl)) rfl
set_option maxRecDepth 20000 in
theorem m_5_34 : (Jvm.Cond.code ({ cls := "DrawerGlovesModel", name := "in", desc := "(III)Z" } : Jvm.MethodName) prog_13_method_3_code (3 : Nat) (Option.some Jvm.ClassFile.FieldType.boolean)) ∈ gtbl := mg (mm_5 (List.mem_of_getElem? (i := 34) rfl)) rfl
set_option maxRecDepth 20000 in
theorem m_5_35 : (Jvm.Cond.methodLink "DrawerGlovesModel" (102 : Nat) ({ cls := "DrawerGlovesModel", name := "refuse", desc := "(I)I" } : Jvm.MethodName)) ∈ gtbl := mg (mm_5 (List.mem_of_getElem? (i := 35) rfl)) rfl
set_option maxRecDepth 20000 in
theorem m_5_37 : (Jvm.Cond.instanceMethod ({ cls := "DrawerGlovesModel", name := "refuse", desc := "(I)I" } : Jvm.MethodName)) ∈ gtbl := mg (mm_5 (List.mem_of_getElem? (i := 37) rfl)) rfl
set_option maxRecDepth 20000 in
theorem m_5_38 : (Jvm.Cond.code ({ cls := "DrawerGlovesModel", name := "refuse", desc := "(I)I" } : Jvm.MethodName) prog_13_method_4_code (2 : Nat) (Option.some Jvm.ClassFile.FieldType.int)) ∈ gtbl := mg (mm_5 (List.mem_of_getElem? (i := 38) rfl)) rfl
set_option maxRecDepth 20000 in
theorem m_5_39 : (Jvm.Cond.methodLink "DrawerGlovesModel" (106 : Nat) ({ cls := "DrawerGlovesModel", name := "clearRow", desc := "(II)V" } : Jvm.MethodName)) ∈ gtbl := mg (mm_5 (List.mem_of_getElem? (i := 39) rfl)) rfl
set_option maxRecDepth 20000 in
theorem m_5_41 : (Jvm.Cond.instanceMethod ({ cls := "DrawerGlovesModel", name := "clearRow", desc := "(II)V" } : Jvm.MethodName)) ∈ gtbl := mg (mm_5 (List.mem_of_getElem? (i := 41) rfl)) rfl
set_option maxRecDepth 20000 in
theorem m_5_42 : (Jvm.Cond.code ({ cls := "DrawerGlovesModel", name := "clearRow", desc := "(II)V" } : Jvm.MethodName) prog_13_method_8_code (4 : Nat) (Option.none : Option Jvm.ClassFile.FieldType)) ∈ gtbl := mg (mm_5 (List.mem_of_getElem? (i := 42) rfl)) rfl
set_option maxRecDepth 20000 in
theorem m_5_43 : (Jvm.Cond.methodLink "DrawerGlovesLaw" (22 : Nat) ({ cls := "DrawerGlovesModel", name := "lay", desc := "(III)I" } : Jvm.MethodName)) ∈ gtbl := mg (mm_5 (List.mem_of_getElem? (i := 43) rfl)) rfl
set_option maxRecDepth 20000 in
theorem m_5_44 : (Jvm.Cond.instanceMethod ({ cls := "DrawerGlovesModel", name := "lay", desc := "(III)I" } : Jvm.MethodName)) ∈ gtbl := mg (mm_5 (List.mem_of_getElem? (i := 44) rfl)) rfl
set_option maxRecDepth 20000 in
theorem m_5_45 : (Jvm.Cond.selects "DrawerGlovesModel" ({ cls := "DrawerGlovesModel", name := "lay", desc := "(III)I" } : Jvm.MethodName) ({ cls := "DrawerGlovesModel", name := "lay", desc := "(III)I" } : Jvm.MethodName)) ∈ gtbl := mg (mm_5 (List.mem_of_getElem? (i := 45) rfl)) rfl
set_option maxRecDepth 20000 in
theorem m_5_46 : (Jvm.Cond.code ({ cls := "DrawerGlovesModel", name := "lay", desc := "(III)I" } : Jvm.MethodName) prog_13_method_10_code (5 : Nat) (Option.some Jvm.ClassFile.FieldType.int)) ∈ gtbl := mg (mm_5 (List.mem_of_getElem? (i := 46) rfl)) rfl
set_option maxRecDepth 20000 in
theorem m_5_47 : (Jvm.Cond.methodLink "DrawerGlovesModel" (110 : Nat) ({ cls := "DrawerGlovesModel", name := "tellsAsked", desc := "(I)I" } : Jvm.MethodName)) ∈ gtbl := mg (mm_5 (List.mem_of_getElem? (i := 47) rfl)) rfl
set_option maxRecDepth 20000 in
theorem m_5_49 : (Jvm.Cond.instanceMethod ({ cls := "DrawerGlovesModel", name := "tellsAsked", desc := "(I)I" } : Jvm.MethodName)) ∈ gtbl := mg (mm_5 (List.mem_of_getElem? (i := 49) rfl)) rfl
set_option maxRecDepth 20000 in
theorem m_5_50 : (Jvm.Cond.code ({ cls := "DrawerGlovesModel", name := "tellsAsked", desc := "(I)I" } : Jvm.MethodName) prog_13_method_5_code (2 : Nat) (Option.some Jvm.ClassFile.FieldType.int)) ∈ gtbl := mg (mm_5 (List.mem_of_getElem? (i := 50) rfl)) rfl
set_option maxRecDepth 20000 in
theorem m_5_51 : (Jvm.Cond.methodLink "DrawerGlovesLaw" (26 : Nat) ({ cls := "DrawerGlovesModel", name := "at", desc := "(II)I" } : Jvm.MethodName)) ∈ gtbl := mg (mm_5 (List.mem_of_getElem? (i := 51) rfl)) rfl
set_option maxRecDepth 20000 in
theorem m_5_52 : (Jvm.Cond.instanceMethod ({ cls := "DrawerGlovesModel", name := "at", desc := "(II)I" } : Jvm.MethodName)) ∈ gtbl := mg (mm_5 (List.mem_of_getElem? (i := 52) rfl)) rfl
set_option maxRecDepth 20000 in
theorem m_5_53 : (Jvm.Cond.selects "DrawerGlovesModel" ({ cls := "DrawerGlovesModel", name := "at", desc := "(II)I" } : Jvm.MethodName) ({ cls := "DrawerGlovesModel", name := "at", desc := "(II)I" } : Jvm.MethodName)) ∈ gtbl := mg (mm_5 (List.mem_of_getElem? (i := 53) rfl)) rfl
set_option maxRecDepth 20000 in
theorem m_5_54 : (Jvm.Cond.code ({ cls := "DrawerGlovesModel", name := "at", desc := "(II)I" } : Jvm.MethodName) prog_13_method_11_code (3 : Nat) (Option.some Jvm.ClassFile.FieldType.int)) ∈ gtbl := mg (mm_5 (List.mem_of_getElem? (i := 54) rfl)) rfl
set_option maxRecDepth 20000 in
theorem m_5_55 : (Jvm.Cond.methodLink "DrawerGlovesLaw" (31 : Nat) ({ cls := "DrawerGlovesModel", name := "tear", desc := "(I)I" } : Jvm.MethodName)) ∈ gtbl := mg (mm_5 (List.mem_of_getElem? (i := 55) rfl)) rfl
set_option maxRecDepth 20000 in
theorem m_5_56 : (Jvm.Cond.instanceMethod ({ cls := "DrawerGlovesModel", name := "tear", desc := "(I)I" } : Jvm.MethodName)) ∈ gtbl := mg (mm_5 (List.mem_of_getElem? (i := 56) rfl)) rfl
set_option maxRecDepth 20000 in
theorem m_5_57 : (Jvm.Cond.selects "DrawerGlovesModel" ({ cls := "DrawerGlovesModel", name := "tear", desc := "(I)I" } : Jvm.MethodName) ({ cls := "DrawerGlovesModel", name := "tear", desc := "(I)I" } : Jvm.MethodName)) ∈ gtbl := mg (mm_5 (List.mem_of_getElem? (i := 57) rfl)) rfl
set_option maxRecDepth 20000 in
theorem m_5_58 : (Jvm.Cond.code ({ cls := "DrawerGlovesModel", name := "tear", desc := "(I)I" } : Jvm.MethodName) prog_13_method_12_code (2 : Nat) (Option.some Jvm.ClassFile.FieldType.int)) ∈ gtbl := mg (mm_5 (List.mem_of_getElem? (i := 58) rfl)) rfl
set_option maxRecDepth 20000 in
theorem m_5_59 : (Jvm.Cond.methodLink "DrawerGlovesLaw" (36 : Nat) ({ cls := "DrawerGlovesModel", name := "copy", desc := "(IIIII)I" } : Jvm.MethodName)) ∈ gtbl := mg (mm_5 (List.mem_of_getElem? (i := 59) rfl)) rfl
set_option maxRecDepth 20000 in
theorem m_5_60 : (Jvm.Cond.instanceMethod ({ cls := "DrawerGlovesModel", name := "copy", desc := "(IIIII)I" } : Jvm.MethodName)) ∈ gtbl := mg (mm_5 (List.mem_of_getElem? (i := 60) rfl)) rfl
set_option maxRecDepth 20000 in
theorem m_5_61 : (Jvm.Cond.selects "DrawerGlovesModel" ({ cls := "DrawerGlovesModel", name := "copy", desc := "(IIIII)I" } : Jvm.MethodName) ({ cls := "DrawerGlovesModel", name := "copy", desc := "(IIIII)I" } : Jvm.MethodName)) ∈ gtbl := mg (mm_5 (List.mem_of_getElem? (i := 61) rfl)) rfl
set_option maxRecDepth 20000 in
theorem m_5_62 : (Jvm.Cond.code ({ cls := "DrawerGlovesModel", name := "copy", desc := "(IIIII)I" } : Jvm.MethodName) prog_13_method_13_code (7 : Nat) (Option.some Jvm.ClassFile.FieldType.int)) ∈ gtbl := mg (mm_5 (List.mem_of_getElem? (i := 62) rfl)) rfl
set_option maxRecDepth 20000 in
theorem m_5_63 : (Jvm.Cond.methodLink "DrawerGlovesLaw" (40 : Nat) ({ cls := "DrawerGlovesModel", name := "mean", desc := "(I)I" } : Jvm.MethodName)) ∈ gtbl := mg (mm_5 (List.mem_of_getElem? (i := 63) rfl)) rfl
set_option maxRecDepth 20000 in
theorem m_5_64 : (Jvm.Cond.instanceMethod ({ cls := "DrawerGlovesModel", name := "mean", desc := "(I)I" } : Jvm.MethodName)) ∈ gtbl := mg (mm_5 (List.mem_of_getElem? (i := 64) rfl)) rfl
set_option maxRecDepth 20000 in
theorem m_5_65 : (Jvm.Cond.selects "DrawerGlovesModel" ({ cls := "DrawerGlovesModel", name := "mean", desc := "(I)I" } : Jvm.MethodName) ({ cls := "DrawerGlovesModel", name := "mean", desc := "(I)I" } : Jvm.MethodName)) ∈ gtbl := mg (mm_5 (List.mem_of_getElem? (i := 65) rfl)) rfl
set_option maxRecDepth 20000 in
theorem m_5_66 : (Jvm.Cond.code ({ cls := "DrawerGlovesModel", name := "mean", desc := "(I)I" } : Jvm.MethodName) prog_13_method_14_code (5 : Nat) (Option.some Jvm.ClassFile.FieldType.int)) ∈ gtbl := mg (mm_5 (List.mem_of_getElem? (i := 66) rfl)) rfl
set_option maxRecDepth 20000 in
theorem m_5_67 : (Jvm.Cond.methodLink "DrawerGlovesLaw" (44 : Nat) ({ cls := "DrawerGlovesModel", name := "text", desc := "(II)I" } : Jvm.MethodName)) ∈ gtbl := mg (mm_5 (List.mem_of_getElem? (i := 67) rfl)) rfl
set_option maxRecDepth 20000 in
theorem m_5_68 : (Jvm.Cond.instanceMethod ({ cls := "DrawerGlovesModel", name := "text", desc := "(II)I" } : Jvm.MethodName)) ∈ gtbl := mg (mm_5 (List.mem_of_getElem? (i := 68) rfl)) rfl
set_option maxRecDepth 20000 in
theorem m_5_69 : (Jvm.Cond.selects "DrawerGlovesModel" ({ cls := "DrawerGlovesModel", name := "text", desc := "(II)I" } : Jvm.MethodName) ({ cls := "DrawerGlovesModel", name := "text", desc := "(II)I" } : Jvm.MethodName)) ∈ gtbl := mg (mm_5 (List.mem_of_getElem? (i := 69) rfl)) rfl
set_option maxRecDepth 20000 in
theorem m_5_70 : (Jvm.Cond.code ({ cls := "DrawerGlovesModel", name := "text", desc := "(II)I" } : Jvm.MethodName) prog_13_method_16_code (4 : Nat) (Option.some Jvm.ClassFile.FieldType.int)) ∈ gtbl := mg (mm_5 (List.mem_of_getElem? (i := 70) rfl)) rfl
set_option maxRecDepth 20000 in
theorem m_5_71 : (Jvm.Cond.methodLink "DrawerGlovesModel" (113 : Nat) ({ cls := "DrawerGlovesModel", name := "isText", desc := "(I)Z" } : Jvm.MethodName)) ∈ gtbl := mg (mm_5 (List.mem_of_getElem? (i := 71) rfl)) rfl
set_option maxRecDepth 20000 in
theorem m_5_72 : (Jvm.Cond.static ({ cls := "DrawerGlovesModel", name := "isText", desc := "(I)Z" } : Jvm.MethodName)) ∈ gtbl := mg (mm_5 (List.mem_of_getElem? (i := 72) rfl)) rfl
set_option maxRecDepth 20000 in
theorem m_5_73 : (Jvm.Cond.code ({ cls := "DrawerGlovesModel", name := "isText", desc := "(I)Z" } : Jvm.MethodName) prog_13_method_15_code (1 : Nat) (Option.some Jvm.ClassFile.FieldType.boolean)) ∈ gtbl := mg (mm_5 (List.mem_of_getElem? (i := 73) rfl)) rfl
set_option maxRecDepth 20000 in
theorem m_5_74 : (Jvm.Cond.methodLink "DrawerGlovesLaw" (48 : Nat) ({ cls := "DrawerGlovesModel", name := "put", desc := "(III)I" } : Jvm.MethodName)) ∈ gtbl := mg (mm_5 (List.mem_of_getElem? (i := 74) rfl)) rfl
set_option maxRecDepth 20000 in
theorem m_5_75 : (Jvm.Cond.instanceMethod ({ cls := "DrawerGlovesModel", name := "put", desc := "(III)I" } : Jvm.MethodName)) ∈ gtbl := mg (mm_5 (List.mem_of_getElem? (i := 75) rfl)) rfl
set_option maxRecDepth 20000 in
theorem m_5_76 : (Jvm.Cond.selects "DrawerGlovesModel" ({ cls := "DrawerGlovesModel", name := "put", desc := "(III)I" } : Jvm.MethodName) ({ cls := "DrawerGlovesModel", name := "put", desc := "(III)I" } : Jvm.MethodName)) ∈ gtbl := mg (mm_5 (List.mem_of_getElem? (i := 76) rfl)) rfl
set_option maxRecDepth 20000 in
theorem m_5_77 : (Jvm.Cond.code ({ cls := "DrawerGlovesModel", name := "put", desc := "(III)I" } : Jvm.MethodName) prog_13_method_17_code (5 : Nat) (Option.some Jvm.ClassFile.FieldType.int)) ∈ gtbl := mg (mm_5 (List.mem_of_getElem? (i := 77) rfl)) rfl
set_option maxRecDepth 20000 in
theorem m_5_78 : (Jvm.Cond.methodLink "DrawerGlovesLaw" (52 : Nat) ({ cls := "DrawerGlovesModel", name := "fault", desc := "(I)I" } : Jvm.MethodName)) ∈ gtbl := mg (mm_5 (List.mem_of_getElem? (i := 78) rfl)) rfl
set_option maxRecDepth 20000 in
theorem m_5_79 : (Jvm.Cond.instanceMethod ({ cls := "DrawerGlovesModel", name := "fault", desc := "(I)I" } : Jvm.MethodName)) ∈ gtbl := mg (mm_5 (List.mem_of_getElem? (i := 79) rfl)) rfl
set_option maxRecDepth 20000 in
theorem m_5_80 : (Jvm.Cond.selects "DrawerGlovesModel" ({ cls := "DrawerGlovesModel", name := "fault", desc := "(I)I" } : Jvm.MethodName) ({ cls := "DrawerGlovesModel", name := "fault", desc := "(I)I" } : Jvm.MethodName)) ∈ gtbl := mg (mm_5 (List.mem_of_getElem? (i := 80) rfl)) rfl
set_option maxRecDepth 20000 in
theorem m_5_81 : (Jvm.Cond.code ({ cls := "DrawerGlovesModel", name := "fault", desc := "(I)I" } : Jvm.MethodName) prog_13_method_24_code (2 : Nat) (Option.some Jvm.ClassFile.FieldType.int)) ∈ gtbl := mg (mm_5 (List.mem_of_getElem? (i := 81) rfl)) rfl
set_option maxRecDepth 20000 in
theorem m_5_82 : (Jvm.Cond.methodLink "DrawerGlovesModel" (148 : Nat) ({ cls := "DrawerGlovesModel", name := "read", desc := "(I)V" } : Jvm.MethodName)) ∈ gtbl := mg (mm_5 (List.mem_of_getElem? (i := 82) rfl)) rfl
set_option maxRecDepth 20000 in
theorem m_5_84 : (Jvm.Cond.instanceMethod ({ cls := "DrawerGlovesModel", name := "read", desc := "(I)V" } : Jvm.MethodName)) ∈ gtbl := mg (mm_5 (List.mem_of_getElem? (i := 84) rfl)) rfl
set_option maxRecDepth 20000 in
theorem m_5_85 : (Jvm.Cond.code ({ cls := "DrawerGlovesModel", name := "read", desc := "(I)V" } : Jvm.MethodName) prog_13_method_23_code (3 : Nat) (Option.none : Option Jvm.ClassFile.FieldType)) ∈ gtbl := mg (mm_5 (List.mem_of_getElem? (i := 85) rfl)) rfl
set_option maxRecDepth 20000 in
theorem m_5_86 : (Jvm.Cond.methodLink "DrawerGlovesModel" (139 : Nat) ({ cls := "DrawerGlovesModel", name := "skip", desc := "()V" } : Jvm.MethodName)) ∈ gtbl := mg (mm_5 (List.mem_of_getElem? (i := 86) rfl)) rfl
set_option maxRecDepth 20000 in
theorem m_5_88 : (Jvm.Cond.instanceMethod ({ cls := "DrawerGlovesModel", name := "skip", desc := "()V" } : Jvm.MethodName)) ∈ gtbl := mg (mm_5 (List.mem_of_getElem? (i := 88) rfl)) rfl
set_option maxRecDepth 20000 in
theorem m_5_89 : (Jvm.Cond.code ({ cls := "DrawerGlovesModel", name := "skip", desc := "()V" } : Jvm.MethodName) prog_13_method_19_code (1 : Nat) (Option.none : Option Jvm.ClassFile.FieldType)) ∈ gtbl := mg (mm_5 (List.mem_of_getElem? (i := 89) rfl)) rfl
set_option maxRecDepth 20000 in
theorem m_5_90 : (Jvm.Cond.methodLink "DrawerGlovesModel" (122 : Nat) ({ cls := "DrawerGlovesModel", name := "here", desc := "()I" } : Jvm.MethodName)) ∈ gtbl := mg (mm_5 (List.mem_of_getElem? (i := 90) rfl)) rfl
set_option maxRecDepth 20000 in
theorem m_5_92 : (Jvm.Cond.instanceMethod ({ cls := "DrawerGlovesModel", name := "here", desc := "()I" } : Jvm.MethodName)) ∈ gtbl := mg (mm_5 (List.mem_of_getElem? (i := 92) rfl)) rfl
set_option maxRecDepth 20000 in
theorem m_5_93 : (Jvm.Cond.code ({ cls := "DrawerGlovesModel", name := "here", desc := "()I" } : Jvm.MethodName) prog_13_method_18_code (1 : Nat) (Option.some Jvm.ClassFile.FieldType.int)) ∈ gtbl := mg (mm_5 (List.mem_of_getElem? (i := 93) rfl)) rfl
set_option maxRecDepth 20000 in
theorem m_5_94 : (Jvm.Cond.methodLink "DrawerGlovesModel" (135 : Nat) ({ cls := "DrawerGlovesModel", name := "figure", desc := "(II)I" } : Jvm.MethodName)) ∈ gtbl := mg (mm_5 (List.mem_of_getElem? (i := 94) rfl)) rfl
set_option maxRecDepth 20000 in
theorem m_5_96 : (Jvm.Cond.instanceMethod ({ cls := "DrawerGlovesModel", name := "figure", desc := "(II)I" } : Jvm.MethodName)) ∈ gtbl := mg (mm_5 (List.mem_of_getElem? (i := 96) rfl)) rfl
set_option maxRecDepth 20000 in
theorem m_5_97 : (Jvm.Cond.code ({ cls := "DrawerGlovesModel", name := "figure", desc := "(II)I" } : Jvm.MethodName) prog_13_method_20_code (4 : Nat) (Option.some Jvm.ClassFile.FieldType.int)) ∈ gtbl := mg (mm_5 (List.mem_of_getElem? (i := 97) rfl)) rfl
set_option maxRecDepth 20000 in
theorem m_5_98 : (Jvm.Cond.methodLink "DrawerGlovesModel" (145 : Nat) ({ cls := "DrawerGlovesModel", name := "readGlove", desc := "()V" } : Jvm.MethodName)) ∈ gtbl := mg (mm_5 (List.mem_of_getElem? (i := 98) rfl)) rfl
set_option maxRecDepth 20000 in
theorem m_5_100 : (Jvm.Cond.instanceMethod ({ cls := "DrawerGlovesModel", name := "readGlove", desc := "()V" } : Jvm.MethodName)) ∈ gtbl := mg (mm_5 (List.mem_of_getElem? (i := 100) rfl)) rfl
set_option maxRecDepth 20000 in
theorem m_5_101 : (Jvm.Cond.code ({ cls := "DrawerGlovesModel", name := "readGlove", desc := "()V" } : Jvm.MethodName) prog_13_method_22_code (2 : Nat) (Option.none : Option Jvm.ClassFile.FieldType)) ∈ gtbl := mg (mm_5 (List.mem_of_getElem? (i := 101) rfl)) rfl
set_option maxRecDepth 20000 in
theorem m_5_102 : (Jvm.Cond.methodLink "DrawerGlovesModel" (129 : Nat) ({ cls := "DrawerGlovesModel", name := "kindBy", desc := "(I)I" } : Jvm.MethodName)) ∈ gtbl := mg (mm_5 (List.mem_of_getElem? (i := 102) rfl)) rfl
set_option maxRecDepth 20000 in
theorem m_5_103 : (Jvm.Cond.static ({ cls := "DrawerGlovesModel", name := "kindBy", desc := "(I)I" } : Jvm.MethodName)) ∈ gtbl := mg (mm_5 (List.mem_of_getElem? (i := 103) rfl)) rfl
set_option maxRecDepth 20000 in
theorem m_5_104 : (Jvm.Cond.code ({ cls := "DrawerGlovesModel", name := "kindBy", desc := "(I)I" } : Jvm.MethodName) prog_13_method_21_code (1 : Nat) (Option.some Jvm.ClassFile.FieldType.int)) ∈ gtbl := mg (mm_5 (List.mem_of_getElem? (i := 104) rfl)) rfl
set_option maxRecDepth 20000 in
theorem m_5_105 : (Jvm.Cond.methodLink "DrawerGlovesLaw" (56 : Nat) ({ cls := "DrawerGlovesModel", name := "drawer", desc := "(I)I" } : Jvm.MethodName)) ∈ gtbl := mg (mm_5 (List.mem_of_getElem? (i := 105) rfl)) rfl
set_option maxRecDepth 20000 in
theorem m_5_106 : (Jvm.Cond.instanceMethod ({ cls := "DrawerGlovesModel", name := "drawer", desc := "(I)I" } : Jvm.MethodName)) ∈ gtbl := mg (mm_5 (List.mem_of_getElem? (i := 106) rfl)) rfl
set_option maxRecDepth 20000 in
theorem m_5_107 : (Jvm.Cond.selects "DrawerGlovesModel" ({ cls := "DrawerGlovesModel", name := "drawer", desc := "(I)I" } : Jvm.MethodName) ({ cls := "DrawerGlovesModel", name := "drawer", desc := "(I)I" } : Jvm.MethodName)) ∈ gtbl := mg (mm_5 (List.mem_of_getElem? (i := 107) rfl)) rfl
set_option maxRecDepth 20000 in
theorem m_5_108 : (Jvm.Cond.code ({ cls := "DrawerGlovesModel", name := "drawer", desc := "(I)I" } : Jvm.MethodName) prog_13_method_25_code (3 : Nat) (Option.some Jvm.ClassFile.FieldType.int)) ∈ gtbl := mg (mm_5 (List.mem_of_getElem? (i := 108) rfl)) rfl
set_option maxRecDepth 20000 in
theorem m_5_109 : (Jvm.Cond.methodLink "DrawerGlovesModel" (161 : Nat) ({ cls := "DrawerGlovesModel", name := "goThrough", desc := "()V" } : Jvm.MethodName)) ∈ gtbl := mg (mm_5 (List.mem_of_getElem? (i := 109) rfl)) rfl
set_option maxRecDepth 20000 in
theorem m_5_111 : (Jvm.Cond.instanceMethod ({ cls := "DrawerGlovesModel", name := "goThrough", desc := "()V" } : Jvm.MethodName)) ∈ gtbl := mg (mm_5 (List.mem_of_getElem? (i := 111) rfl)) rfl
set_option maxRecDepth 20000 in
theorem m_5_112 : (Jvm.Cond.code ({ cls := "DrawerGlovesModel", name := "goThrough", desc := "()V" } : Jvm.MethodName) prog_13_method_37_code (2 : Nat) (Option.none : Option Jvm.ClassFile.FieldType)) ∈ gtbl := mg (mm_5 (List.mem_of_getElem? (i := 112) rfl)) rfl
set_option maxRecDepth 20000 in
theorem m_5_113 : (Jvm.Cond.methodLink "DrawerGlovesModel" (184 : Nat) ({ cls := "DrawerGlovesModel", name := "happen", desc := "(III)V" } : Jvm.MethodName)) ∈ gtbl := mg (mm_5 (List.mem_of_getElem? (i := 113) rfl)) rfl
set_option maxRecDepth 20000 in
theorem m_5_115 : (Jvm.Cond.instanceMethod ({ cls := "DrawerGlovesModel", name := "happen", desc := "(III)V" } : Jvm.MethodName)) ∈ gtbl := mg (mm_5 (List.mem_of_getElem? (i := 115) rfl)) rfl
set_option maxRecDepth 20000 in
theorem m_5_116 : (Jvm.Cond.code ({ cls := "DrawerGlovesModel", name := "happen", desc := "(III)V" } : Jvm.MethodName) prog_13_method_36_code (4 : Nat) (Option.none : Option Jvm.ClassFile.FieldType)) ∈ gtbl := mg (mm_5 (List.mem_of_getElem? (i := 116) rfl)) rfl
set_option maxRecDepth 20000 in
theorem m_5_117 : (Jvm.Cond.methodLink "DrawerGlovesLaw" (60 : Nat) ({ cls := "DrawerGlovesModel", name := "glove", desc := "(II)I" } : Jvm.MethodName)) ∈ gtbl := mg (mm_5 (List.mem_of_getElem? (i := 117) rfl)) rfl
set_option maxRecDepth 20000 in
theorem m_5_118 : (Jvm.Cond.instanceMethod ({ cls := "DrawerGlovesModel", name := "glove", desc := "(II)I" } : Jvm.MethodName)) ∈ gtbl := mg (mm_5 (List.mem_of_getElem? (i := 118) rfl)) rfl
set_option maxRecDepth 20000 in
theorem m_5_119 : (Jvm.Cond.selects "DrawerGlovesModel" ({ cls := "DrawerGlovesModel", name := "glove", desc := "(II)I" } : Jvm.MethodName) ({ cls := "DrawerGlovesModel", name := "glove", desc := "(II)I" } : Jvm.MethodName)) ∈ gtbl := mg (mm_5 (List.mem_of_getElem? (i := 119) rfl)) rfl
set_option maxRecDepth 20000 in
theorem m_5_120 : (Jvm.Cond.code ({ cls := "DrawerGlovesModel", name := "glove", desc := "(II)I" } : Jvm.MethodName) prog_13_method_40_code (3 : Nat) (Option.some Jvm.ClassFile.FieldType.int)) ∈ gtbl := mg (mm_5 (List.mem_of_getElem? (i := 120) rfl)) rfl
set_option maxRecDepth 20000 in
theorem m_5_121 : (Jvm.Cond.methodLink "DrawerGlovesModel" (188 : Nat) ({ cls := "DrawerGlovesModel", name := "isGlove", desc := "(I)Z" } : Jvm.MethodName)) ∈ gtbl := mg (mm_5 (List.mem_of_getElem? (i := 121) rfl)) rfl
set_option maxRecDepth 20000 in
theorem m_5_123 : (Jvm.Cond.instanceMethod ({ cls := "DrawerGlovesModel", name := "isGlove", desc := "(I)Z" } : Jvm.MethodName)) ∈ gtbl := mg (mm_5 (List.mem_of_getElem? (i := 123) rfl)) rfl
set_option maxRecDepth 20000 in
theorem m_5_124 : (Jvm.Cond.code ({ cls := "DrawerGlovesModel", name := "isGlove", desc := "(I)Z" } : Jvm.MethodName) prog_13_method_26_code (2 : Nat) (Option.some Jvm.ClassFile.FieldType.boolean)) ∈ gtbl := mg (mm_5 (List.mem_of_getElem? (i := 124) rfl)) rfl
set_option maxRecDepth 20000 in
theorem m_5_125 : (Jvm.Cond.methodLink "DrawerGlovesModel" (191 : Nat) ({ cls := "DrawerGlovesModel", name := "ofGlove", desc := "(II)I" } : Jvm.MethodName)) ∈ gtbl := mg (mm_5 (List.mem_of_getElem? (i := 125) rfl)) rfl
set_option maxRecDepth 20000 in
theorem m_5_127 : (Jvm.Cond.instanceMethod ({ cls := "DrawerGlovesModel", name := "ofGlove", desc := "(II)I" } : Jvm.MethodName)) ∈ gtbl := mg (mm_5 (List.mem_of_getElem? (i := 127) rfl)) rfl
set_option maxRecDepth 20000 in
theorem m_5_128 : (Jvm.Cond.code ({ cls := "DrawerGlovesModel", name := "ofGlove", desc := "(II)I" } : Jvm.MethodName) prog_13_method_39_code (3 : Nat) (Option.some Jvm.ClassFile.FieldType.int)) ∈ gtbl := mg (mm_5 (List.mem_of_getElem? (i := 128) rfl)) rfl
set_option maxRecDepth 20000 in
theorem m_5_129 : (Jvm.Cond.methodLink "DrawerGlovesModel" (171 : Nat) ({ cls := "DrawerGlovesModel", name := "warmthAs", desc := "(II)I" } : Jvm.MethodName)) ∈ gtbl := mg (mm_5 (List.mem_of_getElem? (i := 129) rfl)) rfl
set_option maxRecDepth 20000 in
theorem m_5_131 : (Jvm.Cond.instanceMethod ({ cls := "DrawerGlovesModel", name := "warmthAs", desc := "(II)I" } : Jvm.MethodName)) ∈ gtbl := mg (mm_5 (List.mem_of_getElem? (i := 131) rfl)) rfl
set_option maxRecDepth 20000 in
theorem m_5_132 : (Jvm.Cond.code ({ cls := "DrawerGlovesModel", name := "warmthAs", desc := "(II)I" } : Jvm.MethodName) prog_13_method_29_code (4 : Nat) (Option.some Jvm.ClassFile.FieldType.int)) ∈ gtbl := mg (mm_5 (List.mem_of_getElem? (i := 132) rfl)) rfl
set_option maxRecDepth 20000 in
theorem m_5_133 : (Jvm.Cond.methodLink "DrawerGlovesLaw" (64 : Nat) ({ cls := "DrawerGlovesModel", name := "mark", desc := "(II)I" } : Jvm.MethodName)) ∈ gtbl := mg (mm_5 (List.mem_of_getElem? (i := 133) rfl)) rfl
set_option maxRecDepth 20000 in
theorem m_5_134 : (Jvm.Cond.instanceMethod ({ cls := "DrawerGlovesModel", name := "mark", desc := "(II)I" } : Jvm.MethodName)) ∈ gtbl := mg (mm_5 (List.mem_of_getElem? (i := 134) rfl)) rfl
set_option maxRecDepth 20000 in
theorem m_5_135 : (Jvm.Cond.selects "DrawerGlovesModel" ({ cls := "DrawerGlovesModel", name := "mark", desc := "(II)I" } : Jvm.MethodName) ({ cls := "DrawerGlovesModel", name := "mark", desc := "(II)I" } : Jvm.MethodName)) ∈ gtbl := mg (mm_5 (List.mem_of_getElem? (i := 135) rfl)) rfl
set_option maxRecDepth 20000 in
theorem m_5_136 : (Jvm.Cond.code ({ cls := "DrawerGlovesModel", name := "mark", desc := "(II)I" } : Jvm.MethodName) prog_13_method_41_code (6 : Nat) (Option.some Jvm.ClassFile.FieldType.int)) ∈ gtbl := mg (mm_5 (List.mem_of_getElem? (i := 136) rfl)) rfl
set_option maxRecDepth 20000 in
theorem m_5_137 : (Jvm.Cond.methodLink "DrawerGlovesModel" (164 : Nat) ({ cls := "DrawerGlovesModel", name := "isOf", desc := "(II)Z" } : Jvm.MethodName)) ∈ gtbl := mg (mm_5 (List.mem_of_getElem? (i := 137) rfl)) rfl
set_option maxRecDepth 20000 in
theorem m_5_138 : (Jvm.Cond.static ({ cls := "DrawerGlovesModel", name := "isOf", desc := "(II)Z" } : Jvm.MethodName)) ∈ gtbl := mg (mm_5 (List.mem_of_getElem? (i := 138) rfl)) rfl
set_option maxRecDepth 20000 in
theorem m_5_139 : (Jvm.Cond.code ({ cls := "DrawerGlovesModel", name := "isOf", desc := "(II)Z" } : Jvm.MethodName) prog_13_method_28_code (2 : Nat) (Option.some Jvm.ClassFile.FieldType.boolean)) ∈ gtbl := mg (mm_5 (List.mem_of_getElem? (i := 139) rfl)) rfl
set_option maxRecDepth 20000 in
theorem m_5_140 : (Jvm.Cond.methodLink "DrawerGlovesModel" (194 : Nat) ({ cls := "DrawerGlovesModel", name := "pairOf", desc := "(II)I" } : Jvm.MethodName)) ∈ gtbl := mg (mm_5 (List.mem_of_getElem? (i := 140) rfl)) rfl
set_option maxRecDepth 20000 in
theorem m_5_142 : (Jvm.Cond.instanceMethod ({ cls := "DrawerGlovesModel", name := "pairOf", desc := "(II)I" } : Jvm.MethodName)) ∈ gtbl := mg (mm_5 (List.mem_of_getElem? (i := 142) rfl)) rfl
set_option maxRecDepth 20000 in
theorem m_5_143 : (Jvm.Cond.code ({ cls := "DrawerGlovesModel", name := "pairOf", desc := "(II)I" } : Jvm.MethodName) prog_13_method_32_code (3 : Nat) (Option.some Jvm.ClassFile.FieldType.int)) ∈ gtbl := mg (mm_5 (List.mem_of_getElem? (i := 143) rfl)) rfl
set_option maxRecDepth 20000 in
theorem m_5_144 : (Jvm.Cond.methodLink "DrawerGlovesModel" (174 : Nat) ({ cls := "DrawerGlovesModel", name := "pairAs", desc := "(IIIII)I" } : Jvm.MethodName)) ∈ gtbl := mg (mm_5 (List.mem_of_getElem? (i := 144) rfl)) rfl
set_option maxRecDepth 20000 in
theorem m_5_146 : (Jvm.Cond.instanceMethod ({ cls := "DrawerGlovesModel", name := "pairAs", desc := "(IIIII)I" } : Jvm.MethodName)) ∈ gtbl := mg (mm_5 (List.mem_of_getElem? (i := 146) rfl)) rfl
set_option maxRecDepth 20000 in
theorem m_5_147 : (Jvm.Cond.code ({ cls := "DrawerGlovesModel", name := "pairAs", desc := "(IIIII)I" } : Jvm.MethodName) prog_13_method_31_code (11 : Nat) (Option.some Jvm.ClassFile.FieldType.int)) ∈ gtbl := mg (mm_5 (List.mem_of_getElem? (i := 147) rfl)) rfl
set_option maxRecDepth 20000 in
theorem m_5_148 : (Jvm.Cond.methodLink "DrawerGlovesModel" (168 : Nat) ({ cls := "DrawerGlovesModel", name := "goesOn", desc := "(II)I" } : Jvm.MethodName)) ∈ gtbl := mg (mm_5 (List.mem_of_getElem? (i := 148) rfl)) rfl
set_option maxRecDepth 20000 in
theorem m_5_149 : (Jvm.Cond.static ({ cls := "DrawerGlovesModel", name := "goesOn", desc := "(II)I" } : Jvm.MethodName)) ∈ gtbl := mg (mm_5 (List.mem_of_getElem? (i := 149) rfl)) rfl
set_option maxRecDepth 20000 in
theorem m_5_150 : (Jvm.Cond.code ({ cls := "DrawerGlovesModel", name := "goesOn", desc := "(II)I" } : Jvm.MethodName) prog_13_method_30_code (2 : Nat) (Option.some Jvm.ClassFile.FieldType.int)) ∈ gtbl := mg (mm_5 (List.mem_of_getElem? (i := 150) rfl)) rfl
set_option maxRecDepth 20000 in
theorem m_5_151 : (Jvm.Cond.methodLink "DrawerGlovesLaw" (68 : Nat) ({ cls := "DrawerGlovesModel", name := "pair", desc := "(II)I" } : Jvm.MethodName)) ∈ gtbl := mg (mm_5 (List.mem_of_getElem? (i := 151) rfl)) rfl
set_option maxRecDepth 20000 in
theorem m_5_152 : (Jvm.Cond.instanceMethod ({ cls := "DrawerGlovesModel", name := "pair", desc := "(II)I" } : Jvm.MethodName)) ∈ gtbl := mg (mm_5 (List.mem_of_getElem? (i := 152) rfl)) rfl
set_option maxRecDepth 20000 in
theorem m_5_153 : (Jvm.Cond.selects "DrawerGlovesModel" ({ cls := "DrawerGlovesModel", name := "pair", desc := "(II)I" } : Jvm.MethodName) ({ cls := "DrawerGlovesModel", name := "pair", desc := "(II)I" } : Jvm.MethodName)) ∈ gtbl := mg (mm_5 (List.mem_of_getElem? (i := 153) rfl)) rfl
set_option maxRecDepth 20000 in
theorem m_5_154 : (Jvm.Cond.code ({ cls := "DrawerGlovesModel", name := "pair", desc := "(II)I" } : Jvm.MethodName) prog_13_method_43_code (3 : Nat) (Option.some Jvm.ClassFile.FieldType.int)) ∈ gtbl := mg (mm_5 (List.mem_of_getElem? (i := 154) rfl)) rfl
set_option maxRecDepth 20000 in
theorem m_5_155 : (Jvm.Cond.methodLink "DrawerGlovesModel" (197 : Nat) ({ cls := "DrawerGlovesModel", name := "areTwo", desc := "(II)Z" } : Jvm.MethodName)) ∈ gtbl := mg (mm_5 (List.mem_of_getElem? (i := 155) rfl)) rfl
set_option maxRecDepth 20000 in
theorem m_5_157 : (Jvm.Cond.instanceMethod ({ cls := "DrawerGlovesModel", name := "areTwo", desc := "(II)Z" } : Jvm.MethodName)) ∈ gtbl := mg (mm_5 (List.mem_of_getElem? (i := 157) rfl)) rfl
set_option maxRecDepth 20000 in
theorem m_5_158 : (Jvm.Cond.code ({ cls := "DrawerGlovesModel", name := "areTwo", desc := "(II)Z" } : Jvm.MethodName) prog_13_method_42_code (3 : Nat) (Option.some Jvm.ClassFile.FieldType.boolean)) ∈ gtbl := mg (mm_5 (List.mem_of_getElem? (i := 158) rfl)) rfl
set_option maxRecDepth 20000 in
theorem m_5_159 : (Jvm.Cond.methodLink "DrawerGlovesLaw" (72 : Nat) ({ cls := "DrawerGlovesModel", name := "wear", desc := "(II)I" } : Jvm.MethodName)) ∈ gtbl := mg (mm_5 (List.mem_of_getElem? (i := 159) rfl)) rfl
set_option maxRecDepth 20000 in
theorem m_5_160 : (Jvm.Cond.instanceMethod ({ cls := "DrawerGlovesModel", name := "wear", desc := "(II)I" } : Jvm.MethodName)) ∈ gtbl := mg (mm_5 (List.mem_of_getElem? (i := 160) rfl)) rfl
set_option maxRecDepth 20000 in
theorem m_5_161 : (Jvm.Cond.selects "DrawerGlovesModel" ({ cls := "DrawerGlovesModel", name := "wear", desc := "(II)I" } : Jvm.MethodName) ({ cls := "DrawerGlovesModel", name := "wear", desc := "(II)I" } : Jvm.MethodName)) ∈ gtbl := mg (mm_5 (List.mem_of_getElem? (i := 161) rfl)) rfl
set_option maxRecDepth 20000 in
theorem m_5_162 : (Jvm.Cond.code ({ cls := "DrawerGlovesModel", name := "wear", desc := "(II)I" } : Jvm.MethodName) prog_13_method_44_code (4 : Nat) (Option.some Jvm.ClassFile.FieldType.int)) ∈ gtbl := mg (mm_5 (List.mem_of_getElem? (i := 162) rfl)) rfl
set_option maxRecDepth 20000 in
theorem m_5_163 : (Jvm.Cond.methodLink "DrawerGlovesModel" (200 : Nat) ({ cls := "DrawerGlovesModel", name := "does", desc := "(III)V" } : Jvm.MethodName)) ∈ gtbl := mg (mm_5 (List.mem_of_getElem? (i := 163) rfl)) rfl
set_option maxRecDepth 20000 in
theorem m_5_165 : (Jvm.Cond.instanceMethod ({ cls := "DrawerGlovesModel", name := "does", desc := "(III)V" } : Jvm.MethodName)) ∈ gtbl := mg (mm_5 (List.mem_of_getElem? (i := 165) rfl)) rfl
set_option maxRecDepth 20000 in
theorem m_5_166 : (Jvm.Cond.code ({ cls := "DrawerGlovesModel", name := "does", desc := "(III)V" } : Jvm.MethodName) prog_13_method_38_code (4 : Nat) (Option.none : Option Jvm.ClassFile.FieldType)) ∈ gtbl := mg (mm_5 (List.mem_of_getElem? (i := 166) rfl)) rfl
set_option maxRecDepth 20000 in
theorem m_5_167 : (Jvm.Cond.methodLink "DrawerGlovesLaw" (76 : Nat) ({ cls := "DrawerGlovesModel", name := "lose", desc := "(I)I" } : Jvm.MethodName)) ∈ gtbl := mg (mm_5 (List.mem_of_getElem? (i := 167) rfl)) rfl
set_option maxRecDepth 20000 in
theorem m_5_168 : (Jvm.Cond.instanceMethod ({ cls := "DrawerGlovesModel", name := "lose", desc := "(I)I" } : Jvm.MethodName)) ∈ gtbl := mg (mm_5 (List.mem_of_getElem? (i := 168) rfl)) rfl
set_option maxRecDepth 20000 in
theorem m_5_169 : (Jvm.Cond.selects "DrawerGlovesModel" ({ cls := "DrawerGlovesModel", name := "lose", desc := "(I)I" } : Jvm.MethodName) ({ cls := "DrawerGlovesModel", name := "lose", desc := "(I)I" } : Jvm.MethodName)) ∈ gtbl := mg (mm_5 (List.mem_of_getElem? (i := 169) rfl)) rfl
set_option maxRecDepth 20000 in
theorem m_5_170 : (Jvm.Cond.code ({ cls := "DrawerGlovesModel", name := "lose", desc := "(I)I" } : Jvm.MethodName) prog_13_method_45_code (2 : Nat) (Option.some Jvm.ClassFile.FieldType.int)) ∈ gtbl := mg (mm_5 (List.mem_of_getElem? (i := 170) rfl)) rfl
set_option maxRecDepth 20000 in
theorem m_5_171 : (Jvm.Cond.methodLink "DrawerGlovesModel" (203 : Nat) ({ cls := "DrawerGlovesModel", name := "inDrawer", desc := "()I" } : Jvm.MethodName)) ∈ gtbl := mg (mm_5 (List.mem_of_getElem? (i := 171) rfl)) rfl
set_option maxRecDepth 20000 in
theorem m_5_173 : (Jvm.Cond.instanceMethod ({ cls := "DrawerGlovesModel", name := "inDrawer", desc := "()I" } : Jvm.MethodName)) ∈ gtbl := mg (mm_5 (List.mem_of_getElem? (i := 173) rfl)) rfl
set_option maxRecDepth 20000 in
theorem m_5_174 : (Jvm.Cond.code ({ cls := "DrawerGlovesModel", name := "inDrawer", desc := "()I" } : Jvm.MethodName) prog_13_method_35_code (1 : Nat) (Option.some Jvm.ClassFile.FieldType.int)) ∈ gtbl := mg (mm_5 (List.mem_of_getElem? (i := 174) rfl)) rfl
set_option maxRecDepth 20000 in
theorem m_5_175 : (Jvm.Cond.methodLink "DrawerGlovesModel" (178 : Nat) ({ cls := "DrawerGlovesModel", name := "setIn", desc := "(I)I" } : Jvm.MethodName)) ∈ gtbl := mg (mm_5 (List.mem_of_getElem? (i := 175) rfl)) rfl
set_option maxRecDepth 20000 in
theorem m_5_177 : (Jvm.Cond.instanceMethod ({ cls := "DrawerGlovesModel", name := "setIn", desc := "(I)I" } : Jvm.MethodName)) ∈ gtbl := mg (mm_5 (List.mem_of_getElem? (i := 177) rfl)) rfl
set_option maxRecDepth 20000 in
theorem m_5_178 : (Jvm.Cond.code ({ cls := "DrawerGlovesModel", name := "setIn", desc := "(I)I" } : Jvm.MethodName) prog_13_method_33_code (4 : Nat) (Option.some Jvm.ClassFile.FieldType.int)) ∈ gtbl := mg (mm_5 (List.mem_of_getElem? (i := 178) rfl)) rfl
set_option maxRecDepth 20000 in
theorem m_5_179 : (Jvm.Cond.methodLink "DrawerGlovesModel" (181 : Nat) ({ cls := "DrawerGlovesModel", name := "manyOf", desc := "(I)I" } : Jvm.MethodName)) ∈ gtbl := mg (mm_5 (List.mem_of_getElem? (i := 179) rfl)) rfl
set_option maxRecDepth 20000 in
theorem m_5_180 : (Jvm.Cond.static ({ cls := "DrawerGlovesModel", name := "manyOf", desc := "(I)I" } : Jvm.MethodName)) ∈ gtbl := mg (mm_5 (List.mem_of_getElem? (i := 180) rfl)) rfl
set_option maxRecDepth 20000 in
theorem m_5_181 : (Jvm.Cond.code ({ cls := "DrawerGlovesModel", name := "manyOf", desc := "(I)I" } : Jvm.MethodName) prog_13_method_34_code (3 : Nat) (Option.some Jvm.ClassFile.FieldType.int)) ∈ gtbl := mg (mm_5 (List.mem_of_getElem? (i := 181) rfl)) rfl
set_option maxRecDepth 20000 in
theorem m_5_182 : (Jvm.Cond.methodLink "DrawerGlovesLaw" (80 : Nat) ({ cls := "DrawerGlovesModel", name := "back", desc := "(I)I" } : Jvm.MethodName)) ∈ gtbl := mg (mm_5 (List.mem_of_getElem? (i := 182) rfl)) rfl
set_option maxRecDepth 20000 in
theorem m_5_183 : (Jvm.Cond.instanceMethod ({ cls := "DrawerGlovesModel", name := "back", desc := "(I)I" } : Jvm.MethodName)) ∈ gtbl := mg (mm_5 (List.mem_of_getElem? (i := 183) rfl)) rfl
set_option maxRecDepth 20000 in
theorem m_5_184 : (Jvm.Cond.selects "DrawerGlovesModel" ({ cls := "DrawerGlovesModel", name := "back", desc := "(I)I" } : Jvm.MethodName) ({ cls := "DrawerGlovesModel", name := "back", desc := "(I)I" } : Jvm.MethodName)) ∈ gtbl := mg (mm_5 (List.mem_of_getElem? (i := 184) rfl)) rfl
set_option maxRecDepth 20000 in
theorem m_5_185 : (Jvm.Cond.code ({ cls := "DrawerGlovesModel", name := "back", desc := "(I)I" } : Jvm.MethodName) prog_13_method_46_code (2 : Nat) (Option.some Jvm.ClassFile.FieldType.int)) ∈ gtbl := mg (mm_5 (List.mem_of_getElem? (i := 185) rfl)) rfl
set_option maxRecDepth 20000 in
theorem m_5_186 : (Jvm.Cond.methodLink "DrawerGlovesLaw" (84 : Nat) ({ cls := "DrawerGlovesModel", name := "out", desc := "(I)I" } : Jvm.MethodName)) ∈ gtbl := mg (mm_5 (List.mem_of_getElem? (i := 186) rfl)) rfl
set_option maxRecDepth 20000 in
theorem m_5_187 : (Jvm.Cond.instanceMethod ({ cls := "DrawerGlovesModel", name := "out", desc := "(I)I" } : Jvm.MethodName)) ∈ gtbl := mg (mm_5 (List.mem_of_getElem? (i := 187) rfl)) rfl
set_option maxRecDepth 20000 in
theorem m_5_188 : (Jvm.Cond.selects "DrawerGlovesModel" ({ cls := "DrawerGlovesModel", name := "out", desc := "(I)I" } : Jvm.MethodName) ({ cls := "DrawerGlovesModel", name := "out", desc := "(I)I" } : Jvm.MethodName)) ∈ gtbl := mg (mm_5 (List.mem_of_getElem? (i := 188) rfl)) rfl
set_option maxRecDepth 20000 in
theorem m_5_189 : (Jvm.Cond.code ({ cls := "DrawerGlovesModel", name := "out", desc := "(I)I" } : Jvm.MethodName) prog_13_method_47_code (2 : Nat) (Option.some Jvm.ClassFile.FieldType.int)) ∈ gtbl := mg (mm_5 (List.mem_of_getElem? (i := 189) rfl)) rfl
set_option maxRecDepth 20000 in
theorem m_5_190 : (Jvm.Cond.methodLink "DrawerGlovesLaw" (88 : Nat) ({ cls := "DrawerGlovesModel", name := "undo", desc := "(I)I" } : Jvm.MethodName)) ∈ gtbl := mg (mm_5 (List.mem_of_getElem? (i := 190) rfl)) rfl
set_option maxRecDepth 20000 in
theorem m_5_191 : (Jvm.Cond.instanceMethod ({ cls := "DrawerGlovesModel", name := "undo", desc := "(I)I" } : Jvm.MethodName)) ∈ gtbl := mg (mm_5 (List.mem_of_getElem? (i := 191) rfl)) rfl
set_option maxRecDepth 20000 in
theorem m_5_192 : (Jvm.Cond.selects "DrawerGlovesModel" ({ cls := "DrawerGlovesModel", name := "undo", desc := "(I)I" } : Jvm.MethodName) ({ cls := "DrawerGlovesModel", name := "undo", desc := "(I)I" } : Jvm.MethodName)) ∈ gtbl := mg (mm_5 (List.mem_of_getElem? (i := 192) rfl)) rfl
set_option maxRecDepth 20000 in
theorem m_5_193 : (Jvm.Cond.code ({ cls := "DrawerGlovesModel", name := "undo", desc := "(I)I" } : Jvm.MethodName) prog_13_method_48_code (3 : Nat) (Option.some Jvm.ClassFile.FieldType.int)) ∈ gtbl := mg (mm_5 (List.mem_of_getElem? (i := 193) rfl)) rfl
set_option maxRecDepth 20000 in
theorem m_5_194 : (Jvm.Cond.methodLink "DrawerGlovesLaw" (92 : Nat) ({ cls := "DrawerGlovesModel", name := "keep", desc := "(I)I" } : Jvm.MethodName)) ∈ gtbl := mg (mm_5 (List.mem_of_getElem? (i := 194) rfl)) rfl
set_option maxRecDepth 20000 in
theorem m_5_195 : (Jvm.Cond.instanceMethod ({ cls := "DrawerGlovesModel", name := "keep", desc := "(I)I" } : Jvm.MethodName)) ∈ gtbl := mg (mm_5 (List.mem_of_getElem? (i := 195) rfl)) rfl
set_option maxRecDepth 20000 in
theorem m_5_196 : (Jvm.Cond.selects "DrawerGlovesModel" ({ cls := "DrawerGlovesModel", name := "keep", desc := "(I)I" } : Jvm.MethodName) ({ cls := "DrawerGlovesModel", name := "keep", desc := "(I)I" } : Jvm.MethodName)) ∈ gtbl := mg (mm_5 (List.mem_of_getElem? (i := 196) rfl)) rfl
set_option maxRecDepth 20000 in
theorem m_5_197 : (Jvm.Cond.code ({ cls := "DrawerGlovesModel", name := "keep", desc := "(I)I" } : Jvm.MethodName) prog_13_method_49_code (3 : Nat) (Option.some Jvm.ClassFile.FieldType.int)) ∈ gtbl := mg (mm_5 (List.mem_of_getElem? (i := 197) rfl)) rfl
set_option maxRecDepth 20000 in
theorem m_5_198 : (Jvm.Cond.methodLink "DrawerGlovesLaw" (96 : Nat) ({ cls := "DrawerGlovesModel", name := "on", desc := "(I)I" } : Jvm.MethodName)) ∈ gtbl := mg (mm_5 (List.mem_of_getElem? (i := 198) rfl)) rfl
set_option maxRecDepth 20000 in
theorem m_5_199 : (Jvm.Cond.instanceMethod ({ cls := "DrawerGlovesModel", name := "on", desc := "(I)I" } : Jvm.MethodName)) ∈ gtbl := mg (mm_5 (List.mem_of_getElem? (i := 199) rfl)) rfl
set_option maxRecDepth 20000 in
theorem m_5_200 : (Jvm.Cond.selects "DrawerGlovesModel" ({ cls := "DrawerGlovesModel", name := "on", desc := "(I)I" } : Jvm.MethodName) ({ cls := "DrawerGlovesModel", name := "on", desc := "(I)I" } : Jvm.MethodName)) ∈ gtbl := mg (mm_5 (List.mem_of_getElem? (i := 200) rfl)) rfl
set_option maxRecDepth 20000 in
theorem m_5_201 : (Jvm.Cond.code ({ cls := "DrawerGlovesModel", name := "on", desc := "(I)I" } : Jvm.MethodName) prog_13_method_50_code (3 : Nat) (Option.some Jvm.ClassFile.FieldType.int)) ∈ gtbl := mg (mm_5 (List.mem_of_getElem? (i := 201) rfl)) rfl
set_option maxRecDepth 20000 in
theorem m_5_202 : (Jvm.Cond.methodLink "DrawerGlovesLaw" (100 : Nat) ({ cls := "DrawerGlovesModel", name := "good", desc := "(I)I" } : Jvm.MethodName)) ∈ gtbl := mg (mm_5 (List.mem_of_getElem? (i := 202) rfl)) rfl
set_option maxRecDepth 20000 in
theorem m_5_203 : (Jvm.Cond.instanceMethod ({ cls := "DrawerGlovesModel", name := "good", desc := "(I)I" } : Jvm.MethodName)) ∈ gtbl := mg (mm_5 (List.mem_of_getElem? (i := 203) rfl)) rfl
set_option maxRecDepth 20000 in
theorem m_5_204 : (Jvm.Cond.selects "DrawerGlovesModel" ({ cls := "DrawerGlovesModel", name := "good", desc := "(I)I" } : Jvm.MethodName) ({ cls := "DrawerGlovesModel", name := "good", desc := "(I)I" } : Jvm.MethodName)) ∈ gtbl := mg (mm_5 (List.mem_of_getElem? (i := 204) rfl)) rfl
set_option maxRecDepth 20000 in
theorem m_5_205 : (Jvm.Cond.code ({ cls := "DrawerGlovesModel", name := "good", desc := "(I)I" } : Jvm.MethodName) prog_13_method_53_code (2 : Nat) (Option.some Jvm.ClassFile.FieldType.int)) ∈ gtbl := mg (mm_5 (List.mem_of_getElem? (i := 205) rfl)) rfl
set_option maxRecDepth 20000 in
theorem m_5_206 : (Jvm.Cond.methodLink "DrawerGlovesModel" (206 : Nat) ({ cls := "DrawerGlovesModel", name := "all", desc := "()I" } : Jvm.MethodName)) ∈ gtbl := mg (mm_5 (List.mem_of_getElem? (i := 206) rfl)) rfl
set_option maxRecDepth 20000 in
theorem m_5_208 : (Jvm.Cond.instanceMethod ({ cls := "DrawerGlovesModel", name := "all", desc := "()I" } : Jvm.MethodName)) ∈ gtbl := mg (mm_5 (List.mem_of_getElem? (i := 208) rfl)) rfl
set_option maxRecDepth 20000 in
theorem m_5_209 : (Jvm.Cond.code ({ cls := "DrawerGlovesModel", name := "all", desc := "()I" } : Jvm.MethodName) prog_13_method_27_code (1 : Nat) (Option.some Jvm.ClassFile.FieldType.int)) ∈ gtbl := mg (mm_5 (List.mem_of_getElem? (i := 209) rfl)) rfl
set_option maxRecDepth 20000 in
theorem m_5_210 : (Jvm.Cond.methodLink "DrawerGlovesModel" (212 : Nat) ({ cls := "DrawerGlovesModel", name := "measure", desc := "()V" } : Jvm.MethodName)) ∈ gtbl := mg (mm_5 (List.mem_of_getElem? (i := 210) rfl)) rfl
set_option maxRecDepth 20000 in
theorem m_5_212 : (Jvm.Cond.instanceMethod ({ cls := "DrawerGlovesModel", name := "measure", desc := "()V" } : Jvm.MethodName)) ∈ gtbl := mg (mm_5 (List.mem_of_getElem? (i := 212) rfl)) rfl
set_option maxRecDepth 20000 in
theorem m_5_213 : (Jvm.Cond.code ({ cls := "DrawerGlovesModel", name := "measure", desc := "()V" } : Jvm.MethodName) prog_13_method_52_code (7 : Nat) (Option.none : Option Jvm.ClassFile.FieldType)) ∈ gtbl := mg (mm_5 (List.mem_of_getElem? (i := 213) rfl)) rfl
set_option maxRecDepth 20000 in
theorem m_5_214 : (Jvm.Cond.methodLink "DrawerGlovesModel" (209 : Nat) ({ cls := "DrawerGlovesModel", name := "lowestOf", desc := "(I)I" } : Jvm.MethodName)) ∈ gtbl := mg (mm_5 (List.mem_of_getElem? (i := 214) rfl)) rfl
set_option maxRecDepth 20000 in
theorem m_5_215 : (Jvm.Cond.static ({ cls := "DrawerGlovesModel", name := "lowestOf", desc := "(I)I" } : Jvm.MethodName)) ∈ gtbl := mg (mm_5 (List.mem_of_getElem? (i := 215) rfl)) rfl
set_option maxRecDepth 20000 in
theorem m_5_216 : (Jvm.Cond.code ({ cls := "DrawerGlovesModel", name := "lowestOf", desc := "(I)I" } : Jvm.MethodName) prog_13_method_51_code (2 : Nat) (Option.some Jvm.ClassFile.FieldType.int)) ∈ gtbl := mg (mm_5 (List.mem_of_getElem? (i := 216) rfl)) rfl
set_option maxRecDepth 20000 in
theorem m_5_217 : (Jvm.Cond.methodLink "DrawerGlovesLaw" (104 : Nat) ({ cls := "DrawerGlovesModel", name := "pairs", desc := "(I)I" } : Jvm.MethodName)) ∈ gtbl := mg (mm_5 (List.mem_of_getElem? (i := 217) rfl)) rfl
set_option maxRecDepth 20000 in
theorem m_5_218 : (Jvm.Cond.instanceMethod ({ cls := "DrawerGlovesModel", name := "pairs", desc := "(I)I" } : Jvm.MethodName)) ∈ gtbl := mg (mm_5 (List.mem_of_getElem? (i := 218) rfl)) rfl
set_option maxRecDepth 20000 in
theorem m_5_219 : (Jvm.Cond.selects "DrawerGlovesModel" ({ cls := "DrawerGlovesModel", name := "pairs", desc := "(I)I" } : Jvm.MethodName) ({ cls := "DrawerGlovesModel", name := "pairs", desc := "(I)I" } : Jvm.MethodName)) ∈ gtbl := mg (mm_5 (List.mem_of_getElem? (i := 219) rfl)) rfl
set_option maxRecDepth 20000 in
theorem m_5_220 : (Jvm.Cond.code ({ cls := "DrawerGlovesModel", name := "pairs", desc := "(I)I" } : Jvm.MethodName) prog_13_method_54_code (9 : Nat) (Option.some Jvm.ClassFile.FieldType.int)) ∈ gtbl := mg (mm_5 (List.mem_of_getElem? (i := 220) rfl)) rfl
set_option maxRecDepth 20000 in
theorem m_5_221 : (Jvm.Cond.methodLink "DrawerGlovesLaw" (109 : Nat) ({ cls := "DrawerGlovesModel", name := "missed", desc := "()I" } : Jvm.MethodName)) ∈ gtbl := mg (mm_5 (List.mem_of_getElem? (i := 221) rfl)) rfl
set_option maxRecDepth 20000 in
theorem m_5_222 : (Jvm.Cond.instanceMethod ({ cls := "DrawerGlovesModel", name := "missed", desc := "()I" } : Jvm.MethodName)) ∈ gtbl := mg (mm_5 (List.mem_of_getElem? (i := 222) rfl)) rfl
set_option maxRecDepth 20000 in
theorem m_5_223 : (Jvm.Cond.selects "DrawerGlovesModel" ({ cls := "DrawerGlovesModel", name := "missed", desc := "()I" } : Jvm.MethodName) ({ cls := "DrawerGlovesModel", name := "missed", desc := "()I" } : Jvm.MethodName)) ∈ gtbl := mg (mm_5 (List.mem_of_getElem? (i := 223) rfl)) rfl
set_option maxRecDepth 20000 in
theorem m_5_224 : (Jvm.Cond.code ({ cls := "DrawerGlovesModel", name := "missed", desc := "()I" } : Jvm.MethodName) prog_13_method_55_code (6 : Nat) (Option.some Jvm.ClassFile.FieldType.int)) ∈ gtbl := mg (mm_5 (List.mem_of_getElem? (i := 224) rfl)) rfl
set_option maxRecDepth 20000 in
theorem m_5_225 : (Jvm.Cond.methodLink "DrawerGlovesLaw" (113 : Nat) ({ cls := "DrawerGlovesModel", name := "wished", desc := "()I" } : Jvm.MethodName)) ∈ gtbl := mg (mm_5 (List.mem_of_getElem? (i := 225) rfl)) rfl
set_option maxRecDepth 20000 in
theorem m_5_226 : (Jvm.Cond.instanceMethod ({ cls := "DrawerGlovesModel", name := "wished", desc := "()I" } : Jvm.MethodName)) ∈ gtbl := mg (mm_5 (List.mem_of_getElem? (i := 226) rfl)) rfl
set_option maxRecDepth 20000 in
theorem m_5_227 : (Jvm.Cond.selects "DrawerGlovesModel" ({ cls := "DrawerGlovesModel", name := "wished", desc := "()I" } : Jvm.MethodName) ({ cls := "DrawerGlovesModel", name := "wished", desc := "()I" } : Jvm.MethodName)) ∈ gtbl := mg (mm_5 (List.mem_of_getElem? (i := 227) rfl)) rfl
set_option maxRecDepth 20000 in
theorem m_5_228 : (Jvm.Cond.code ({ cls := "DrawerGlovesModel", name := "wished", desc := "()I" } : Jvm.MethodName) prog_13_method_56_code (6 : Nat) (Option.some Jvm.ClassFile.FieldType.int)) ∈ gtbl := mg (mm_5 (List.mem_of_getElem? (i := 228) rfl)) rfl
set_option maxRecDepth 20000 in
theorem m_5_229 : (Jvm.Cond.methodLink "DrawerGlovesLaw" (117 : Nat) ({ cls := "DrawerGlovesModel", name := "days", desc := "(II)I" } : Jvm.MethodName)) ∈ gtbl := mg (mm_5 (List.mem_of_getElem? (i := 229) rfl)) rfl
set_option maxRecDepth 20000 in
theorem m_5_230 : (Jvm.Cond.instanceMethod ({ cls := "DrawerGlovesModel", name := "days", desc := "(II)I" } : Jvm.MethodName)) ∈ gtbl := mg (mm_5 (List.mem_of_getElem? (i := 230) rfl)) rfl
set_option maxRecDepth 20000 in
theorem m_5_231 : (Jvm.Cond.selects "DrawerGlovesModel" ({ cls := "DrawerGlovesModel", name := "days", desc := "(II)I" } : Jvm.MethodName) ({ cls := "DrawerGlovesModel", name := "days", desc := "(II)I" } : Jvm.MethodName)) ∈ gtbl := mg (mm_5 (List.mem_of_getElem? (i := 231) rfl)) rfl
set_option maxRecDepth 20000 in
theorem m_5_232 : (Jvm.Cond.code ({ cls := "DrawerGlovesModel", name := "days", desc := "(II)I" } : Jvm.MethodName) prog_13_method_60_code (10 : Nat) (Option.some Jvm.ClassFile.FieldType.int)) ∈ gtbl := mg (mm_5 (List.mem_of_getElem? (i := 232) rfl)) rfl
set_option maxRecDepth 20000 in
theorem m_5_233 : (Jvm.Cond.methodLink "DrawerGlovesModel" (218 : Nat) ({ cls := "DrawerGlovesModel", name := "listTwos", desc := "()V" } : Jvm.MethodName)) ∈ gtbl := mg (mm_5 (List.mem_of_getElem? (i := 233) rfl)) rfl
set_option maxRecDepth 20000 in
theorem m_5_235 : (Jvm.Cond.instanceMethod ({ cls := "DrawerGlovesModel", name := "listTwos", desc := "()V" } : Jvm.MethodName)) ∈ gtbl := mg (mm_5 (List.mem_of_getElem? (i := 235) rfl)) rfl
set_option maxRecDepth 20000 in
theorem m_5_236 : (Jvm.Cond.code ({ cls := "DrawerGlovesModel", name := "listTwos", desc := "()V" } : Jvm.MethodName) prog_13_method_57_code (3 : Nat) (Option.none : Option Jvm.ClassFile.FieldType)) ∈ gtbl := mg (mm_5 (List.mem_of_getElem? (i := 236) rfl)) rfl
set_option maxRecDepth 20000 in
theorem m_5_237 : (Jvm.Cond.methodLink "DrawerGlovesModel" (221 : Nat) ({ cls := "DrawerGlovesModel", name := "useOf", desc := "(I)I" } : Jvm.MethodName)) ∈ gtbl := mg (mm_5 (List.mem_of_getElem? (i := 237) rfl)) rfl
set_option maxRecDepth 20000 in
theorem m_5_239 : (Jvm.Cond.instanceMethod ({ cls := "DrawerGlovesModel", name := "useOf", desc := "(I)I" } : Jvm.MethodName)) ∈ gtbl := mg (mm_5 (List.mem_of_getElem? (i := 239) rfl)) rfl
set_option maxRecDepth 20000 in
theorem m_6_0 : (Jvm.Cond.code ({ cls := "DrawerGlovesModel", name := "useOf", desc := "(I)I" } : Jvm.MethodName) prog_13_method_58_code (3 : Nat) (Option.some Jvm.ClassFile.FieldType.int)) ∈ gtbl := mg (mm_6 (List.mem_of_getElem? (i := 0) rfl)) rfl
set_option maxRecDepth 20000 in
theorem m_6_1 : (Jvm.Cond.methodLink "DrawerGlovesModel" (224 : Nat) ({ cls := "DrawerGlovesModel", name := "takeOff", desc := "(I)V" } : Jvm.MethodName)) ∈ gtbl := mg (mm_6 (List.mem_of_getElem? (i := 1) rfl)) rfl
set_option maxRecDepth 20000 in
theorem m_6_3 : (Jvm.Cond.instanceMethod ({ cls := "DrawerGlovesModel", name := "takeOff", desc := "(I)V" } : Jvm.MethodName)) ∈ gtbl := mg (mm_6 (List.mem_of_getElem? (i := 3) rfl)) rfl
set_option maxRecDepth 20000 in
theorem m_6_4 : (Jvm.Cond.code ({ cls := "DrawerGlovesModel", name := "takeOff", desc := "(I)V" } : Jvm.MethodName) prog_13_method_59_code (2 : Nat) (Option.none : Option Jvm.ClassFile.FieldType)) ∈ gtbl := mg (mm_6 (List.mem_of_getElem? (i := 4) rfl)) rfl
set_option maxRecDepth 20000 in
theorem m_6_5 : (Jvm.Cond.methodLink "DrawerGlovesLaw" (121 : Nat) ({ cls := "DrawerGlovesModel", name := "room", desc := "()I" } : Jvm.MethodName)) ∈ gtbl := mg (mm_6 (List.mem_of_getElem? (i := 5) rfl)) rfl
set_option maxRecDepth 20000 in
theorem m_6_6 : (Jvm.Cond.instanceMethod ({ cls := "DrawerGlovesModel", name := "room", desc := "()I" } : Jvm.MethodName)) ∈ gtbl := mg (mm_6 (List.mem_of_getElem? (i := 6) rfl)) rfl
set_option maxRecDepth 20000 in
theorem m_6_7 : (Jvm.Cond.selects "DrawerGlovesModel" ({ cls := "DrawerGlovesModel", name := "room", desc := "()I" } : Jvm.MethodName) ({ cls := "DrawerGlovesModel", name := "room", desc := "()I" } : Jvm.MethodName)) ∈ gtbl := mg (mm_6 (List.mem_of_getElem? (i := 7) rfl)) rfl
set_option maxRecDepth 20000 in
theorem m_6_8 : (Jvm.Cond.code ({ cls := "DrawerGlovesModel", name := "room", desc := "()I" } : Jvm.MethodName) prog_13_method_62_code (5 : Nat) (Option.some Jvm.ClassFile.FieldType.int)) ∈ gtbl := mg (mm_6 (List.mem_of_getElem? (i := 8) rfl)) rfl
set_option maxRecDepth 20000 in
theorem m_6_9 : (Jvm.Cond.methodLink "DrawerGlovesModel" (227 : Nat) ({ cls := "DrawerGlovesModel", name := "worstOf", desc := "(I)I" } : Jvm.MethodName)) ∈ gtbl := mg (mm_6 (List.mem_of_getElem? (i := 9) rfl)) rfl
set_option maxRecDepth 20000 in
theorem m_6_11 : (Jvm.Cond.instanceMethod ({ cls := "DrawerGlovesModel", name := "worstOf", desc := "(I)I" } : Jvm.MethodName)) ∈ gtbl := mg (mm_6 (List.mem_of_getElem? (i := 11) rfl)) rfl
set_option maxRecDepth 20000 in
theorem m_6_12 : (Jvm.Cond.code ({ cls := "DrawerGlovesModel", name := "worstOf", desc := "(I)I" } : Jvm.MethodName) prog_13_method_61_code (5 : Nat) (Option.some Jvm.ClassFile.FieldType.int)) ∈ gtbl := mg (mm_6 (List.mem_of_getElem? (i := 12) rfl)) rfl
set_option maxRecDepth 20000 in
theorem m_6_13 : (Jvm.Cond.methodLink "DrawerGlovesLaw" (125 : Nat) ({ cls := "DrawerGlovesModel", name := "join", desc := "(II)I" } : Jvm.MethodName)) ∈ gtbl := mg (mm_6 (List.mem_of_getElem? (i := 13) rfl)) rfl
set_option maxRecDepth 20000 in
theorem m_6_14 : (Jvm.Cond.instanceMethod ({ cls := "DrawerGlovesModel", name := "join", desc := "(II)I" } : Jvm.MethodName)) ∈ gtbl := mg (mm_6 (List.mem_of_getElem? (i := 14) rfl)) rfl
set_option maxRecDepth 20000 in
theorem m_6_15 : (Jvm.Cond.selects "DrawerGlovesModel" ({ cls := "DrawerGlovesModel", name := "join", desc := "(II)I" } : Jvm.MethodName) ({ cls := "DrawerGlovesModel", name := "join", desc := "(II)I" } : Jvm.MethodName)) ∈ gtbl := mg (mm_6 (List.mem_of_getElem? (i := 15) rfl)) rfl
set_option maxRecDepth 20000 in
theorem m_6_16 : (Jvm.Cond.code ({ cls := "DrawerGlovesModel", name := "join", desc := "(II)I" } : Jvm.MethodName) prog_13_method_63_code (3 : Nat) (Option.some Jvm.ClassFile.FieldType.int)) ∈ gtbl := mg (mm_6 (List.mem_of_getElem? (i := 16) rfl)) rfl
set_option maxRecDepth 20000 in
theorem m_6_17 : (Jvm.Cond.methodLink "DrawerGlovesLaw" (129 : Nat) ({ cls := "DrawerGlovesModel", name := "sorts", desc := "(II)I" } : Jvm.MethodName)) ∈ gtbl := mg (mm_6 (List.mem_of_getElem? (i := 17) rfl)) rfl
set_option maxRecDepth 20000 in
theorem m_6_18 : (Jvm.Cond.instanceMethod ({ cls := "DrawerGlovesModel", name := "sorts", desc := "(II)I" } : Jvm.MethodName)) ∈ gtbl := mg (mm_6 (List.mem_of_getElem? (i := 18) rfl)) rfl
set_option maxRecDepth 20000 in
theorem m_6_19 : (Jvm.Cond.selects "DrawerGlovesModel" ({ cls := "DrawerGlovesModel", name := "sorts", desc := "(II)I" } : Jvm.MethodName) ({ cls := "DrawerGlovesModel", name := "sorts", desc := "(II)I" } : Jvm.MethodName)) ∈ gtbl := mg (mm_6 (List.mem_of_getElem? (i := 19) rfl)) rfl
set_option maxRecDepth 20000 in
theorem m_6_20 : (Jvm.Cond.code ({ cls := "DrawerGlovesModel", name := "sorts", desc := "(II)I" } : Jvm.MethodName) prog_13_method_66_code (6 : Nat) (Option.some Jvm.ClassFile.FieldType.int)) ∈ gtbl := mg (mm_6 (List.mem_of_getElem? (i := 20) rfl)) rfl
set_option maxRecDepth 20000 in
theorem m_6_21 : (Jvm.Cond.methodLink "DrawerGlovesModel" (230 : Nat) ({ cls := "DrawerGlovesModel", name := "judge", desc := "(II)I" } : Jvm.MethodName)) ∈ gtbl := mg (mm_6 (List.mem_of_getElem? (i := 21) rfl)) rfl
set_option maxRecDepth 20000 in
theorem m_6_23 : (Jvm.Cond.instanceMethod ({ cls := "DrawerGlovesModel", name := "judge", desc := "(II)I" } : Jvm.MethodName)) ∈ gtbl := mg (mm_6 (List.mem_of_getElem? (i := 23) rfl)) rfl
set_option maxRecDepth 20000 in
theorem m_6_24 : (Jvm.Cond.code ({ cls := "DrawerGlovesModel", name := "judge", desc := "(II)I" } : Jvm.MethodName) prog_13_method_64_code (7 : Nat) (Option.some Jvm.ClassFile.FieldType.int)) ∈ gtbl := mg (mm_6 (List.mem_of_getElem? (i := 24) rfl)) rfl
set_option maxRecDepth 20000 in
theorem m_6_25 : (Jvm.Cond.methodLink "DrawerGlovesModel" (233 : Nat) ({ cls := "DrawerGlovesModel", name := "isSo", desc := "(IIIII)Z" } : Jvm.MethodName)) ∈ gtbl := mg (mm_6 (List.mem_of_getElem? (i := 25) rfl)) rfl
set_option maxRecDepth 20000 in
theorem m_6_27 : (Jvm.Cond.instanceMethod ({ cls := "DrawerGlovesModel", name := "isSo", desc := "(IIIII)Z" } : Jvm.MethodName)) ∈ gtbl := mg (mm_6 (List.mem_of_getElem? (i := 27) rfl)) rfl
set_option maxRecDepth 20000 in
theorem m_6_28 : (Jvm.Cond.code ({ cls := "DrawerGlovesModel", name := "isSo", desc := "(IIIII)Z" } : Jvm.MethodName) prog_13_method_65_code (8 : Nat) (Option.some Jvm.ClassFile.FieldType.boolean)) ∈ gtbl := mg (mm_6 (List.mem_of_getElem? (i := 28) rfl)) rfl
set_option maxRecDepth 20000 in
theorem m_6_29 : (Jvm.Cond.methodLink "DrawerGlovesLaw" (133 : Nat) ({ cls := "DrawerGlovesModel", name := "hands", desc := "(II)I" } : Jvm.MethodName)) ∈ gtbl := mg (mm_6 (List.mem_of_getElem? (i := 29) rfl)) rfl
set_option maxRecDepth 20000 in
theorem m_6_30 : (Jvm.Cond.instanceMethod ({ cls := "DrawerGlovesModel", name := "hands", desc := "(II)I" } : Jvm.MethodName)) ∈ gtbl := mg (mm_6 (List.mem_of_getElem? (i := 30) rfl)) rfl
set_option maxRecDepth 20000 in
theorem m_6_31 : (Jvm.Cond.selects "DrawerGlovesModel" ({ cls := "DrawerGlovesModel", name := "hands", desc := "(II)I" } : Jvm.MethodName) ({ cls := "DrawerGlovesModel", name := "hands", desc := "(II)I" } : Jvm.MethodName)) ∈ gtbl := mg (mm_6 (List.mem_of_getElem? (i := 31) rfl)) rfl
set_option maxRecDepth 20000 in
theorem m_6_32 : (Jvm.Cond.code ({ cls := "DrawerGlovesModel", name := "hands", desc := "(II)I" } : Jvm.MethodName) prog_13_method_67_code (6 : Nat) (Option.some Jvm.ClassFile.FieldType.int)) ∈ gtbl := mg (mm_6 (List.mem_of_getElem? (i := 32) rfl)) rfl
set_option maxRecDepth 20000 in
theorem m_6_33 : (Jvm.Cond.methodLink "DrawerGlovesLaw" (137 : Nat) ({ cls := "DrawerGlovesModel", name := "kinds", desc := "(II)I" } : Jvm.MethodName)) ∈ gtbl := mg (mm_6 (List.mem_of_getElem? (i := 33) rfl)) rfl
set_option maxRecDepth 20000 in
theorem m_6_34 : (Jvm.Cond.instanceMethod ({ cls := "DrawerGlovesModel", name := "kinds", desc := "(II)I" } : Jvm.MethodName)) ∈ gtbl := mg (mm_6 (List.mem_of_getElem? (i := 34) rfl)) rfl
set_option maxRecDepth 20000 in
theorem m_6_35 : (Jvm.Cond.selects "DrawerGlovesModel" ({ cls := "DrawerGlovesModel", name := "kinds", desc := "(II)I" } : Jvm.MethodName) ({ cls := "DrawerGlovesModel", name := "kinds", desc := "(II)I" } : Jvm.MethodName)) ∈ gtbl := mg (mm_6 (List.mem_of_getElem? (i := 35) rfl)) rfl
set_option maxRecDepth 20000 in
theorem m_6_36 : (Jvm.Cond.code ({ cls := "DrawerGlovesModel", name := "kinds", desc := "(II)I" } : Jvm.MethodName) prog_13_method_69_code (4 : Nat) (Option.some Jvm.ClassFile.FieldType.int)) ∈ gtbl := mg (mm_6 (List.mem_of_getElem? (i := 36) rfl)) rfl
set_option maxRecDepth 20000 in
theorem m_6_37 : (Jvm.Cond.methodLink "DrawerGlovesModel" (237 : Nat) ({ cls := "DrawerGlovesModel", name := "kindsBy", desc := "(II)I" } : Jvm.MethodName)) ∈ gtbl := mg (mm_6 (List.mem_of_getElem? (i := 37) rfl)) rfl
set_option maxRecDepth 20000 in
theorem m_6_39 : (Jvm.Cond.instanceMethod ({ cls := "DrawerGlovesModel", name := "kindsBy", desc := "(II)I" } : Jvm.MethodName)) ∈ gtbl := mg (mm_6 (List.mem_of_getElem? (i := 39) rfl)) rfl
set_option maxRecDepth 20000 in
theorem m_6_40 : (Jvm.Cond.code ({ cls := "DrawerGlovesModel", name := "kindsBy", desc := "(II)I" } : Jvm.MethodName) prog_13_method_68_code (5 : Nat) (Option.some Jvm.ClassFile.FieldType.int)) ∈ gtbl := mg (mm_6 (List.mem_of_getElem? (i := 40) rfl)) rfl
set_option maxRecDepth 20000 in
theorem m_6_41 : (Jvm.Cond.methodLink "DrawerGlovesLaw" (141 : Nat) ({ cls := "DrawerGlovesModel", name := "test", desc := "(II)I" } : Jvm.MethodName)) ∈ gtbl := mg (mm_6 (List.mem_of_getElem? (i := 41) rfl)) rfl
set_option maxRecDepth 20000 in
theorem m_6_42 : (Jvm.Cond.instanceMethod ({ cls := "DrawerGlovesModel", name := "test", desc := "(II)I" } : Jvm.MethodName)) ∈ gtbl := mg (mm_6 (List.mem_of_getElem? (i := 42) rfl)) rfl
set_option maxRecDepth 20000 in
theorem m_6_43 : (Jvm.Cond.selects "DrawerGlovesModel" ({ cls := "DrawerGlovesModel", name := "test", desc := "(II)I" } : Jvm.MethodName) ({ cls := "DrawerGlovesModel", name := "test", desc := "(II)I" } : Jvm.MethodName)) ∈ gtbl := mg (mm_6 (List.mem_of_getElem? (i := 43) rfl)) rfl
set_option maxRecDepth 20000 in
theorem m_6_44 : (Jvm.Cond.code ({ cls := "DrawerGlovesModel", name := "test", desc := "(II)I" } : Jvm.MethodName) prog_13_method_71_code (9 : Nat) (Option.some Jvm.ClassFile.FieldType.int)) ∈ gtbl := mg (mm_6 (List.mem_of_getElem? (i := 44) rfl)) rfl
set_option maxRecDepth 20000 in
theorem m_6_45 : (Jvm.Cond.methodLink "DrawerGlovesModel" (240 : Nat) ({ cls := "DrawerGlovesModel", name := "partBy", desc := "(III)I" } : Jvm.MethodName)) ∈ gtbl := mg (mm_6 (List.mem_of_getElem? (i := 45) rfl)) rfl
set_option maxRecDepth 20000 in
theorem m_6_47 : (Jvm.Cond.instanceMethod ({ cls := "DrawerGlovesModel", name := "partBy", desc := "(III)I" } : Jvm.MethodName)) ∈ gtbl := mg (mm_6 (List.mem_of_getElem? (i := 47) rfl)) rfl
set_option maxRecDepth 20000 in
theorem m_6_48 : (Jvm.Cond.code ({ cls := "DrawerGlovesModel", name := "partBy", desc := "(III)I" } : Jvm.MethodName) prog_13_method_70_code (9 : Nat) (Option.some Jvm.ClassFile.FieldType.int)) ∈ gtbl := mg (mm_6 (List.mem_of_getElem? (i := 48) rfl)) rfl
set_option maxRecDepth 20000 in
theorem m_6_49 : (Jvm.Cond.methodLink "DrawerGlovesLaw" (145 : Nat) ({ cls := "DrawerGlovesModel", name := "duel", desc := "(I)I" } : Jvm.MethodName)) ∈ gtbl := mg (mm_6 (List.mem_of_getElem? (i := 49) rfl)) rfl
set_option maxRecDepth 20000 in
theorem m_6_50 : (Jvm.Cond.instanceMethod ({ cls := "DrawerGlovesModel", name := "duel", desc := "(I)I" } : Jvm.MethodName)) ∈ gtbl := mg (mm_6 (List.mem_of_getElem? (i := 50) rfl)) rfl
set_option maxRecDepth 20000 in
theorem m_6_51 : (Jvm.Cond.selects "DrawerGlovesModel" ({ cls := "DrawerGlovesModel", name := "duel", desc := "(I)I" } : Jvm.MethodName) ({ cls := "DrawerGlovesModel", name := "duel", desc := "(I)I" } : Jvm.MethodName)) ∈ gtbl := mg (mm_6 (List.mem_of_getElem? (i := 51) rfl)) rfl
set_option maxRecDepth 20000 in
theorem m_6_52 : (Jvm.Cond.code ({ cls := "DrawerGlovesModel", name := "duel", desc := "(I)I" } : Jvm.MethodName) prog_13_method_74_code (9 : Nat) (Option.some Jvm.ClassFile.FieldType.int)) ∈ gtbl := mg (mm_6 (List.mem_of_getElem? (i := 52) rfl)) rfl
set_option maxRecDepth 20000 in
theorem m_6_53 : (Jvm.Cond.methodLink "DrawerGlovesModel" (244 : Nat) ({ cls := "DrawerGlovesModel", name := "unitOf", desc := "(I)I" } : Jvm.MethodName)) ∈ gtbl := mg (mm_6 (List.mem_of_getElem? (i := 53) rfl)) rfl
set_option maxRecDepth 20000 in
theorem m_6_54 : (Jvm.Cond.static ({ cls := "DrawerGlovesModel", name := "unitOf", desc := "(I)I" } : Jvm.MethodName)) ∈ gtbl := mg (mm_6 (List.mem_of_getElem? (i := 54) rfl)) rfl
set_option maxRecDepth 20000 in
theorem m_6_55 : (Jvm.Cond.code ({ cls := "DrawerGlovesModel", name := "unitOf", desc := "(I)I" } : Jvm.MethodName) prog_13_method_72_code (3 : Nat) (Option.some Jvm.ClassFile.FieldType.int)) ∈ gtbl := mg (mm_6 (List.mem_of_getElem? (i := 55) rfl)) rfl
set_option maxRecDepth 20000 in
theorem m_6_56 : (Jvm.Cond.methodLink "DrawerGlovesModel" (247 : Nat) ({ cls := "DrawerGlovesModel", name := "hasOf", desc := "(II)I" } : Jvm.MethodName)) ∈ gtbl := mg (mm_6 (List.mem_of_getElem? (i := 56) rfl)) rfl
set_option maxRecDepth 20000 in
theorem m_6_58 : (Jvm.Cond.instanceMethod ({ cls := "DrawerGlovesModel", name := "hasOf", desc := "(II)I" } : Jvm.MethodName)) ∈ gtbl := mg (mm_6 (List.mem_of_getElem? (i := 58) rfl)) rfl
set_option maxRecDepth 20000 in
theorem m_6_59 : (Jvm.Cond.code ({ cls := "DrawerGlovesModel", name := "hasOf", desc := "(II)I" } : Jvm.MethodName) prog_13_method_73_code (6 : Nat) (Option.some Jvm.ClassFile.FieldType.int)) ∈ gtbl := mg (mm_6 (List.mem_of_getElem? (i := 59) rfl)) rfl
set_option maxRecDepth 20000 in
theorem m_6_60 : (Jvm.Cond.methodLink "DrawerGlovesModel" (250 : Nat) ({ cls := "DrawerGlovesModel", name := "bestTurn", desc := "(III)I" } : Jvm.MethodName)) ∈ gtbl := mg (mm_6 (List.mem_of_getElem? (i := 60) rfl)) rfl
set_option maxRecDepth 20000 in
theorem m_6_62 : (Jvm.Cond.instanceMethod ({ cls := "DrawerGlovesModel", name := "bestTurn", desc := "(III)I" } : Jvm.MethodName)) ∈ gtbl := mg (mm_6 (List.mem_of_getElem? (i := 62) rfl)) rfl
set_option maxRecDepth 20000 in
theorem m_6_63 : (Jvm.Cond.code ({ cls := "DrawerGlovesModel", name := "bestTurn", desc := "(III)I" } : Jvm.MethodName) prog_13_method_75_code (8 : Nat) (Option.some Jvm.ClassFile.FieldType.int)) ∈ gtbl := mg (mm_6 (List.mem_of_getElem? (i := 63) rfl)) rfl
set_option maxRecDepth 20000 in
theorem m_6_64 : (Jvm.Cond.methodLink "DrawerGlovesLaw" (149 : Nat) ({ cls := "DrawerGlovesModel", name := "odds", desc := "(III)I" } : Jvm.MethodName)) ∈ gtbl := mg (mm_6 (List.mem_of_getElem? (i := 64) rfl)) rfl
set_option maxRecDepth 20000 in
theorem m_6_65 : (Jvm.Cond.instanceMethod ({ cls := "DrawerGlovesModel", name := "odds", desc := "(III)I" } : Jvm.MethodName)) ∈ gtbl := mg (mm_6 (List.mem_of_getElem? (i := 65) rfl)) rfl
set_option maxRecDepth 20000 in
theorem m_6_66 : (Jvm.Cond.selects "DrawerGlovesModel" ({ cls := "DrawerGlovesModel", name := "odds", desc := "(III)I" } : Jvm.MethodName) ({ cls := "DrawerGlovesModel", name := "odds", desc := "(III)I" } : Jvm.MethodName)) ∈ gtbl := mg (mm_6 (List.mem_of_getElem? (i := 66) rfl)) rfl
set_option maxRecDepth 20000 in
theorem m_6_67 : (Jvm.Cond.code ({ cls := "DrawerGlovesModel", name := "odds", desc := "(III)I" } : Jvm.MethodName) prog_13_method_80_code (8 : Nat) (Option.some Jvm.ClassFile.FieldType.int)) ∈ gtbl := mg (mm_6 (List.mem_of_getElem? (i := 67) rfl)) rfl
set_option maxRecDepth 20000 in
theorem m_6_68 : (Jvm.Cond.methodLink "DrawerGlovesModel" (258 : Nat) ({ cls := "DrawerGlovesModel", name := "areOf", desc := "(II)Z" } : Jvm.MethodName)) ∈ gtbl := mg (mm_6 (List.mem_of_getElem? (i := 68) rfl)) rfl
set_option maxRecDepth 20000 in
theorem m_6_69 : (Jvm.Cond.static ({ cls := "DrawerGlovesModel", name := "areOf", desc := "(II)Z" } : Jvm.MethodName)) ∈ gtbl := mg (mm_6 (List.mem_of_getElem? (i := 69) rfl)) rfl
set_option maxRecDepth 20000 in
theorem m_6_70 : (Jvm.Cond.code ({ cls := "DrawerGlovesModel", name := "areOf", desc := "(II)Z" } : Jvm.MethodName) prog_13_method_76_code (2 : Nat) (Option.some Jvm.ClassFile.FieldType.boolean)) ∈ gtbl := mg (mm_6 (List.mem_of_getElem? (i := 70) rfl)) rfl
set_option maxRecDepth 20000 in
theorem m_6_71 : (Jvm.Cond.methodLink "DrawerGlovesModel" (261 : Nat) ({ cls := "DrawerGlovesModel", name := "waysOf", desc := "(IIII)J" } : Jvm.MethodName)) ∈ gtbl := mg (mm_6 (List.mem_of_getElem? (i := 71) rfl)) rfl
set_option maxRecDepth 20000 in
theorem m_6_73 : (Jvm.Cond.instanceMethod ({ cls := "DrawerGlovesModel", name := "waysOf", desc := "(IIII)J" } : Jvm.MethodName)) ∈ gtbl := mg (mm_6 (List.mem_of_getElem? (i := 73) rfl)) rfl
set_option maxRecDepth 20000 in
theorem m_6_74 : (Jvm.Cond.code ({ cls := "DrawerGlovesModel", name := "waysOf", desc := "(IIII)J" } : Jvm.MethodName) prog_13_method_78_code (9 : Nat) (Option.some Jvm.ClassFile.FieldType.long)) ∈ gtbl := mg (mm_6 (List.mem_of_getElem? (i := 74) rfl)) rfl
set_option maxRecDepth 20000 in
theorem m_6_75 : (Jvm.Cond.methodLink "DrawerGlovesModel" (253 : Nat) ({ cls := "DrawerGlovesModel", name := "lossOf", desc := "(III)I" } : Jvm.MethodName)) ∈ gtbl := mg (mm_6 (List.mem_of_getElem? (i := 75) rfl)) rfl
set_option maxRecDepth 20000 in
theorem m_6_77 : (Jvm.Cond.instanceMethod ({ cls := "DrawerGlovesModel", name := "lossOf", desc := "(III)I" } : Jvm.MethodName)) ∈ gtbl := mg (mm_6 (List.mem_of_getElem? (i := 77) rfl)) rfl
set_option maxRecDepth 20000 in
theorem m_6_78 : (Jvm.Cond.code ({ cls := "DrawerGlovesModel", name := "lossOf", desc := "(III)I" } : Jvm.MethodName) prog_13_method_77_code (4 : Nat) (Option.some Jvm.ClassFile.FieldType.int)) ∈ gtbl := mg (mm_6 (List.mem_of_getElem? (i := 78) rfl)) rfl
set_option maxRecDepth 20000 in
theorem m_6_79 : (Jvm.Cond.methodLink "DrawerGlovesModel" (265 : Nat) ({ cls := "DrawerGlovesModel", name := "allWays", desc := "(I)J" } : Jvm.MethodName)) ∈ gtbl := mg (mm_6 (List.mem_of_getElem? (i := 79) rfl)) rfl
set_option maxRecDepth 20000 in
theorem m_6_81 : (Jvm.Cond.instanceMethod ({ cls := "DrawerGlovesModel", name := "allWays", desc := "(I)J" } : Jvm.MethodName)) ∈ gtbl := mg (mm_6 (List.mem_of_getElem? (i := 81) rfl)) rfl
set_option maxRecDepth 20000 in
theorem m_6_82 : (Jvm.Cond.code ({ cls := "DrawerGlovesModel", name := "allWays", desc := "(I)J" } : Jvm.MethodName) prog_13_method_79_code (5 : Nat) (Option.some Jvm.ClassFile.FieldType.long)) ∈ gtbl := mg (mm_6 (List.mem_of_getElem? (i := 82) rfl)) rfl
set_option maxRecDepth 20000 in
theorem m_6_83 : (Jvm.Cond.constantLong "DrawerGlovesModel" (256 : Nat) (12 : Int64)) ∈ gtbl := mg (mm_6 (List.mem_of_getElem? (i := 83) rfl)) rfl
set_option maxRecDepth 20000 in
theorem m_6_84 : (Jvm.Cond.methodLink "DrawerGlovesModel" (269 : Nat) ({ cls := "DrawerGlovesModel", name := "tellPart", desc := "(JJ)V" } : Jvm.MethodName)) ∈ gtbl := mg (mm_6 (List.mem_of_getElem? (i := 84) rfl)) rfl
set_option maxRecDepth 20000 in
theorem m_6_86 : (Jvm.Cond.instanceMethod ({ cls := "DrawerGlovesModel", name := "tellPart", desc := "(JJ)V" } : Jvm.MethodName)) ∈ gtbl := mg (mm_6 (List.mem_of_getElem? (i := 86) rfl)) rfl
set_option maxRecDepth 20000 in
theorem m_6_87 : (Jvm.Cond.code ({ cls := "DrawerGlovesModel", name := "tellPart", desc := "(JJ)V" } : Jvm.MethodName) prog_13_method_6_code (11 : Nat) (Option.none : Option Jvm.ClassFile.FieldType)) ∈ gtbl := mg (mm_6 (List.mem_of_getElem? (i := 87) rfl)) rfl
set_option maxRecDepth 20000 in
theorem m_6_88 : (Jvm.Cond.methodLink "DrawerGlovesLaw" (153 : Nat) ({ cls := "DrawerGlovesModel", name := "mid", desc := "(II)I" } : Jvm.MethodName)) ∈ gtbl := mg (mm_6 (List.mem_of_getElem? (i := 88) rfl)) rfl
set_option maxRecDepth 20000 in
theorem m_6_89 : (Jvm.Cond.instanceMethod ({ cls := "DrawerGlovesModel", name := "mid", desc := "(II)I" } : Jvm.MethodName)) ∈ gtbl := mg (mm_6 (List.mem_of_getElem? (i := 89) rfl)) rfl
set_option maxRecDepth 20000 in
theorem m_6_90 : (Jvm.Cond.selects "DrawerGlovesModel" ({ cls := "DrawerGlovesModel", name := "mid", desc := "(II)I" } : Jvm.MethodName) ({ cls := "DrawerGlovesModel", name := "mid", desc := "(II)I" } : Jvm.MethodName)) ∈ gtbl := mg (mm_6 (List.mem_of_getElem? (i := 90) rfl)) rfl
set_option maxRecDepth 20000 in
theorem m_6_91 : (Jvm.Cond.code ({ cls := "DrawerGlovesModel", name := "mid", desc := "(II)I" } : Jvm.MethodName) prog_13_method_81_code (7 : Nat) (Option.some Jvm.ClassFile.FieldType.int)) ∈ gtbl := mg (mm_6 (List.mem_of_getElem? (i := 91) rfl)) rfl
set_option maxRecDepth 20000 in
theorem m_6_92 : (Jvm.Cond.methodLink "DrawerGlovesLaw" (157 : Nat) ({ cls := "DrawerGlovesModel", name := "lots", desc := "(II)I" } : Jvm.MethodName)) ∈ gtbl := mg (mm_6 (List.mem_of_getElem? (i := 92) rfl)) rfl
set_option maxRecDepth 20000 in
theorem m_6_93 : (Jvm.Cond.instanceMethod ({ cls := "DrawerGlovesModel", name := "lots", desc := "(II)I" } : Jvm.MethodName)) ∈ gtbl := mg (mm_6 (List.mem_of_getElem? (i := 93) rfl)) rfl
set_option maxRecDepth 20000 in
theorem m_6_94 : (Jvm.Cond.selects "DrawerGlovesModel" ({ cls := "DrawerGlovesModel", name := "lots", desc := "(II)I" } : Jvm.MethodName) ({ cls := "DrawerGlovesModel", name := "lots", desc := "(II)I" } : Jvm.MethodName)) ∈ gtbl := mg (mm_6 (List.mem_of_getElem? (i := 94) rfl)) rfl
set_option maxRecDepth 20000 in
theorem m_6_95 : (Jvm.Cond.code ({ cls := "DrawerGlovesModel", name := "lots", desc := "(II)I" } : Jvm.MethodName) prog_13_method_82_code (7 : Nat) (Option.some Jvm.ClassFile.FieldType.int)) ∈ gtbl := mg (mm_6 (List.mem_of_getElem? (i := 95) rfl)) rfl
set_option maxRecDepth 20000 in
theorem m_6_96 : (Jvm.Cond.constant "DrawerGlovesModel" (273 : Nat) (2147483646 : Int32)) ∈ gtbl := mg (mm_6 (List.mem_of_getElem? (i := 96) rfl)) rfl
set_option maxRecDepth 20000 in
theorem m_6_97 : (Jvm.Cond.constantLong "DrawerGlovesModel" (274 : Nat) (48271 : Int64)) ∈ gtbl := mg (mm_6 (List.mem_of_getElem? (i := 97) rfl)) rfl
set_option maxRecDepth 20000 in
theorem m_6_98 : (Jvm.Cond.constantLong "DrawerGlovesModel" (276 : Nat) (2147483647 : Int64)) ∈ gtbl := mg (mm_6 (List.mem_of_getElem? (i := 98) rfl)) rfl
set_option maxRecDepth 20000 in
theorem m_6_99 : (Jvm.Cond.constantLong "DrawerGlovesModel" (278 : Nat) (8 : Int64)) ∈ gtbl := mg (mm_6 (List.mem_of_getElem? (i := 99) rfl)) rfl
set_option maxRecDepth 20000 in
theorem m_6_100 : (Jvm.Cond.methodLink "DrawerGlovesLaw" (161 : Nat) ({ cls := "DrawerGlovesModel", name := "asked", desc := "()I" } : Jvm.MethodName)) ∈ gtbl := mg (mm_6 (List.mem_of_getElem? (i := 100) rfl)) rfl
set_option maxRecDepth 20000 in
theorem m_6_101 : (Jvm.Cond.instanceMethod ({ cls := "DrawerGlovesModel", name := "asked", desc := "()I" } : Jvm.MethodName)) ∈ gtbl := mg (mm_6 (List.mem_of_getElem? (i := 101) rfl)) rfl
set_option maxRecDepth 20000 in
theorem m_6_102 : (Jvm.Cond.selects "DrawerGlovesModel" ({ cls := "DrawerGlovesModel", name := "asked", desc := "()I" } : Jvm.MethodName) ({ cls := "DrawerGlovesModel", name := "asked", desc := "()I" } : Jvm.MethodName)) ∈ gtbl := mg (mm_6 (List.mem_of_getElem? (i := 102) rfl)) rfl
set_option maxRecDepth 20000 in
theorem m_6_103 : (Jvm.Cond.code ({ cls := "DrawerGlovesModel", name := "asked", desc := "()I" } : Jvm.MethodName) prog_13_method_83_code (1 : Nat) (Option.some Jvm.ClassFile.FieldType.int)) ∈ gtbl := mg (mm_6 (List.mem_of_getElem? (i := 103) rfl)) rfl
set_option maxRecDepth 20000 in
theorem m_6_104 : (Jvm.Cond.methodLink "DrawerGlovesLaw" (166 : Nat) ({ cls := "DrawerGlovesModel", name := "upper", desc := "()J" } : Jvm.MethodName)) ∈ gtbl := mg (mm_6 (List.mem_of_getElem? (i := 104) rfl)) rfl
set_option maxRecDepth 20000 in
theorem m_6_105 : (Jvm.Cond.instanceMethod ({ cls := "DrawerGlovesModel", name := "upper", desc := "()J" } : Jvm.MethodName)) ∈ gtbl := mg (mm_6 (List.mem_of_getElem? (i := 105) rfl)) rfl
set_option maxRecDepth 20000 in
theorem m_6_106 : (Jvm.Cond.selects "DrawerGlovesModel" ({ cls := "DrawerGlovesModel", name := "upper", desc := "()J" } : Jvm.MethodName) ({ cls := "DrawerGlovesModel", name := "upper", desc := "()J" } : Jvm.MethodName)) ∈ gtbl := mg (mm_6 (List.mem_of_getElem? (i := 106) rfl)) rfl
set_option maxRecDepth 20000 in
theorem m_6_107 : (Jvm.Cond.code ({ cls := "DrawerGlovesModel", name := "upper", desc := "()J" } : Jvm.MethodName) prog_13_method_84_code (1 : Nat) (Option.some Jvm.ClassFile.FieldType.long)) ∈ gtbl := mg (mm_6 (List.mem_of_getElem? (i := 107) rfl)) rfl
set_option maxRecDepth 20000 in
theorem m_6_108 : (Jvm.Cond.methodLink "DrawerGlovesLaw" (170 : Nat) ({ cls := "DrawerGlovesModel", name := "lower", desc := "()J" } : Jvm.MethodName)) ∈ gtbl := mg (mm_6 (List.mem_of_getElem? (i := 108) rfl)) rfl
set_option maxRecDepth 20000 in
theorem m_6_109 : (Jvm.Cond.instanceMethod ({ cls := "DrawerGlovesModel", name := "lower", desc := "()J" } : Jvm.MethodName)) ∈ gtbl := mg (mm_6 (List.mem_of_getElem? (i := 109) rfl)) rfl
set_option maxRecDepth 20000 in
theorem m_6_110 : (Jvm.Cond.selects "DrawerGlovesModel" ({ cls := "DrawerGlovesModel", name := "lower", desc := "()J" } : Jvm.MethodName) ({ cls := "DrawerGlovesModel", name := "lower", desc := "()J" } : Jvm.MethodName)) ∈ gtbl := mg (mm_6 (List.mem_of_getElem? (i := 110) rfl)) rfl
set_option maxRecDepth 20000 in
theorem m_6_111 : (Jvm.Cond.code ({ cls := "DrawerGlovesModel", name := "lower", desc := "()J" } : Jvm.MethodName) prog_13_method_85_code (1 : Nat) (Option.some Jvm.ClassFile.FieldType.long)) ∈ gtbl := mg (mm_6 (List.mem_of_getElem? (i := 111) rfl)) rfl
set_option maxRecDepth 20000 in
theorem m_6_112 : (Jvm.Cond.methodLink "DrawerGlovesLaw" (174 : Nat) ({ cls := "DrawerGlovesModel", name := "count", desc := "(I)I" } : Jvm.MethodName)) ∈ gtbl := mg (mm_6 (List.mem_of_getElem? (i := 112) rfl)) rfl
set_option maxRecDepth 20000 in
theorem m_6_113 : (Jvm.Cond.instanceMethod ({ cls := "DrawerGlovesModel", name := "count", desc := "(I)I" } : Jvm.MethodName)) ∈ gtbl := mg (mm_6 (List.mem_of_getElem? (i := 113) rfl)) rfl
set_option maxRecDepth 20000 in
theorem m_6_114 : (Jvm.Cond.selects "DrawerGlovesModel" ({ cls := "DrawerGlovesModel", name := "count", desc := "(I)I" } : Jvm.MethodName) ({ cls := "DrawerGlovesModel", name := "count", desc := "(I)I" } : Jvm.MethodName)) ∈ gtbl := mg (mm_6 (List.mem_of_getElem? (i := 114) rfl)) rfl
set_option maxRecDepth 20000 in
theorem m_6_115 : (Jvm.Cond.code ({ cls := "DrawerGlovesModel", name := "count", desc := "(I)I" } : Jvm.MethodName) prog_13_method_86_code (4 : Nat) (Option.some Jvm.ClassFile.FieldType.int)) ∈ gtbl := mg (mm_6 (List.mem_of_getElem? (i := 115) rfl)) rfl
set_option maxRecDepth 20000 in
theorem m_6_116 : (Jvm.Cond.methodLink "DrawerGlovesLaw" (178 : Nat) ({ cls := "DrawerGlovesModel", name := "finding", desc := "()I" } : Jvm.MethodName)) ∈ gtbl := mg (mm_6 (List.mem_of_getElem? (i := 116) rfl)) rfl
set_option maxRecDepth 20000 in
theorem m_6_117 : (Jvm.Cond.instanceMethod ({ cls := "DrawerGlovesModel", name := "finding", desc := "()I" } : Jvm.MethodName)) ∈ gtbl := mg (mm_6 (List.mem_of_getElem? (i := 117) rfl)) rfl
set_option maxRecDepth 20000 in
theorem m_6_118 : (Jvm.Cond.selects "DrawerGlovesModel" ({ cls := "DrawerGlovesModel", name := "finding", desc := "()I" } : Jvm.MethodName) ({ cls := "DrawerGlovesModel", name := "finding", desc := "()I" } : Jvm.MethodName)) ∈ gtbl := mg (mm_6 (List.mem_of_getElem? (i := 118) rfl)) rfl
set_option maxRecDepth 20000 in
theorem m_6_119 : (Jvm.Cond.code ({ cls := "DrawerGlovesModel", name := "finding", desc := "()I" } : Jvm.MethodName) prog_13_method_87_code (1 : Nat) (Option.some Jvm.ClassFile.FieldType.int)) ∈ gtbl := mg (mm_6 (List.mem_of_getElem? (i := 119) rfl)) rfl
set_option maxRecDepth 20000 in
theorem m_6_120 : (Jvm.Cond.methodLink "DrawerGlovesLaw" (182 : Nat) ({ cls := "DrawerGlovesModel", name := "findings", desc := "(I)I" } : Jvm.MethodName)) ∈ gtbl := mg (mm_6 (List.mem_of_getElem? (i := 120) rfl)) rfl
set_option maxRecDepth 20000 in
theorem m_6_121 : (Jvm.Cond.instanceMethod ({ cls := "DrawerGlovesModel", name := "findings", desc := "(I)I" } : Jvm.MethodName)) ∈ gtbl := mg (mm_6 (List.mem_of_getElem? (i := 121) rfl)) rfl
set_option maxRecDepth 20000 in
theorem m_6_122 : (Jvm.Cond.selects "DrawerGlovesModel" ({ cls := "DrawerGlovesModel", name := "findings", desc := "(I)I" } : Jvm.MethodName) ({ cls := "DrawerGlovesModel", name := "findings", desc := "(I)I" } : Jvm.MethodName)) ∈ gtbl := mg (mm_6 (List.mem_of_getElem? (i := 122) rfl)) rfl
set_option maxRecDepth 20000 in
theorem m_6_123 : (Jvm.Cond.code ({ cls := "DrawerGlovesModel", name := "findings", desc := "(I)I" } : Jvm.MethodName) prog_13_method_88_code (2 : Nat) (Option.some Jvm.ClassFile.FieldType.int)) ∈ gtbl := mg (mm_6 (List.mem_of_getElem? (i := 123) rfl)) rfl
set_option maxRecDepth 20000 in
theorem m_6_124 : (Jvm.Cond.methodLink "DrawerGlovesLaw" (186 : Nat) ({ cls := "DrawerGlovesModel", name := "digest", desc := "()J" } : Jvm.MethodName)) ∈ gtbl := mg (mm_6 (List.mem_of_getElem? (i := 124) rfl)) rfl
set_option maxRecDepth 20000 in
theorem m_6_125 : (Jvm.Cond.instanceMethod ({ cls := "DrawerGlovesModel", name := "digest", desc := "()J" } : Jvm.MethodName)) ∈ gtbl := mg (mm_6 (List.mem_of_getElem? (i := 125) rfl)) rfl
set_option maxRecDepth 20000 in
theorem m_6_126 : (Jvm.Cond.selects "DrawerGlovesModel" ({ cls := "DrawerGlovesModel", name := "digest", desc := "()J" } : Jvm.MethodName) ({ cls := "DrawerGlovesModel", name := "digest", desc := "()J" } : Jvm.MethodName)) ∈ gtbl := mg (mm_6 (List.mem_of_getElem? (i := 126) rfl)) rfl
set_option maxRecDepth 20000 in
theorem m_6_127 : (Jvm.Cond.code ({ cls := "DrawerGlovesModel", name := "digest", desc := "()J" } : Jvm.MethodName) prog_13_method_89_code (5 : Nat) (Option.some Jvm.ClassFile.FieldType.long)) ∈ gtbl := mg (mm_6 (List.mem_of_getElem? (i := 127) rfl)) rfl
set_option maxRecDepth 20000 in
theorem m_6_128 : (Jvm.Cond.constantLong "DrawerGlovesModel" (280 : Nat) (17 : Int64)) ∈ gtbl := mg (mm_6 (List.mem_of_getElem? (i := 128) rfl)) rfl
set_option maxRecDepth 20000 in
theorem m_6_129 : (Jvm.Cond.constantLong "DrawerGlovesModel" (282 : Nat) (31 : Int64)) ∈ gtbl := mg (mm_6 (List.mem_of_getElem? (i := 129) rfl)) rfl
set_option maxRecDepth 20000 in
theorem m_6_130 : (Jvm.Cond.methodLink "DrawerGlovesModel" (284 : Nat) ({ cls := "DrawerGlovesModel", name := "count", desc := "(I)I" } : Jvm.MethodName)) ∈ gtbl := mg (mm_6 (List.mem_of_getElem? (i := 130) rfl)) rfl
theorem ms_0 : Cond.selects "DrawerGloves" (⟨"DrawerGloves", "finds", "(I)I"⟩ : MethodName) ⟨"DrawerGloves", "finds", "(I)I"⟩ ∈ gtbl := mg (mp_1 (q := (⟨"DrawerGloves", "finds", "(I)I"⟩, _)) (List.mem_of_getElem? (i := 0) rfl)) rfl
theorem ms_1 : Cond.selects "DrawerGloves" (⟨"DrawerGloves", "refusedPlace", "(II)I"⟩ : MethodName) ⟨"DrawerGloves", "refusedPlace", "(II)I"⟩ ∈ gtbl := mg (mp_1 (q := (⟨"DrawerGloves", "refusedPlace", "(II)I"⟩, _)) (List.mem_of_getElem? (i := 1) rfl)) rfl
theorem ms_2 : Cond.selects "DrawerGloves" (⟨"DrawerGloves", "refusedRow", "(I)I"⟩ : MethodName) ⟨"DrawerGloves", "refusedRow", "(I)I"⟩ ∈ gtbl := mg (mp_1 (q := (⟨"DrawerGloves", "refusedRow", "(I)I"⟩, _)) (List.mem_of_getElem? (i := 2) rfl)) rfl
theorem ms_3 : Cond.selects "DrawerGloves" (⟨"DrawerGloves", "tells", "(I)I"⟩ : MethodName) ⟨"DrawerGloves", "tells", "(I)I"⟩ ∈ gtbl := mg (mp_1 (q := (⟨"DrawerGloves", "tells", "(I)I"⟩, _)) (List.mem_of_getElem? (i := 3) rfl)) rfl
theorem ms_4 : Cond.selects "DrawerGloves" (⟨"DrawerGloves", "refusedText", "(I)I"⟩ : MethodName) ⟨"DrawerGloves", "refusedText", "(I)I"⟩ ∈ gtbl := mg (mp_1 (q := (⟨"DrawerGloves", "refusedText", "(I)I"⟩, _)) (List.mem_of_getElem? (i := 4) rfl)) rfl
theorem ms_5 : Cond.selects "DrawerGloves$Reading" (⟨"DrawerGloves$Reading", "faultOfGlove", "(LDrawerGloves$Rows;II)I"⟩ : MethodName) ⟨"DrawerGloves$Reading", "faultOfGlove", "(LDrawerGloves$Rows;II)I"⟩ ∈ gtbl := mg (mp_1 (q := (⟨"DrawerGloves$Reading", "faultOfGlove", "(LDrawerGloves$Rows;II)I"⟩, _)) (List.mem_of_getElem? (i := 5) rfl)) rfl
theorem ms_6 : Cond.selects "DrawerGloves$Drawer" (⟨"DrawerGloves$Drawer", "carryOut", "(III)V"⟩ : MethodName) ⟨"DrawerGloves$Drawer", "carryOut", "(III)V"⟩ ∈ gtbl := mg (mp_1 (q := (⟨"DrawerGloves$Drawer", "carryOut", "(III)V"⟩, _)) (List.mem_of_getElem? (i := 6) rfl)) rfl
theorem ms_7 : Cond.selects "DrawerGloves$Glove" (⟨"DrawerGloves$Glove", "goesOn", "(I)Z"⟩ : MethodName) ⟨"DrawerGloves$Glove", "goesOn", "(I)Z"⟩ ∈ gtbl := mg (mp_1 (q := (⟨"DrawerGloves$Glove", "goesOn", "(I)Z"⟩, _)) (List.mem_of_getElem? (i := 7) rfl)) rfl
theorem ms_8 : Cond.selects "DrawerGloves$Makings" (⟨"DrawerGloves$Makings", "weighWith", "(II)V"⟩ : MethodName) ⟨"DrawerGloves$Makings", "weighWith", "(II)V"⟩ ∈ gtbl := mg (mp_1 (q := (⟨"DrawerGloves$Makings", "weighWith", "(II)V"⟩, _)) (List.mem_of_getElem? (i := 8) rfl)) rfl
theorem ms_9 : Cond.selects "DrawerGloves$Makings" (⟨"DrawerGloves$Makings", "firstMate", "(LDrawerGloves$Drawer;II)I"⟩ : MethodName) ⟨"DrawerGloves$Makings", "firstMate", "(LDrawerGloves$Drawer;II)I"⟩ ∈ gtbl := mg (mp_1 (q := (⟨"DrawerGloves$Makings", "firstMate", "(LDrawerGloves$Drawer;II)I"⟩, _)) (List.mem_of_getElem? (i := 9) rfl)) rfl
theorem ms_10 : Cond.selects "DrawerGloves" (⟨"DrawerGloves", "greatestChange", "(I)I"⟩ : MethodName) ⟨"DrawerGloves", "greatestChange", "(I)I"⟩ ∈ gtbl := mg (mp_1 (q := (⟨"DrawerGloves", "greatestChange", "(I)I"⟩, _)) (List.mem_of_getElem? (i := 10) rfl)) rfl
theorem ms_11 : Cond.selects "DrawerGloves$Calendar" (⟨"DrawerGloves$Calendar", "gather", "(LDrawerGloves$Drawer;)V"⟩ : MethodName) ⟨"DrawerGloves$Calendar", "gather", "(LDrawerGloves$Drawer;)V"⟩ ∈ gtbl := mg (mp_1 (q := (⟨"DrawerGloves$Calendar", "gather", "(LDrawerGloves$Drawer;)V"⟩, _)) (List.mem_of_getElem? (i := 11) rfl)) rfl
theorem ms_12 : Cond.selects "DrawerGloves$Makings" (⟨"DrawerGloves$Makings", "isSafer", "(LDrawerGloves$Drawer;II)Z"⟩ : MethodName) ⟨"DrawerGloves$Makings", "isSafer", "(LDrawerGloves$Drawer;II)Z"⟩ ∈ gtbl := mg (mp_1 (q := (⟨"DrawerGloves$Makings", "isSafer", "(LDrawerGloves$Drawer;II)Z"⟩, _)) (List.mem_of_getElem? (i := 12) rfl)) rfl
theorem ms_13 : Cond.selects "DrawerGloves" (⟨"DrawerGloves", "refusedGuess", "(II)I"⟩ : MethodName) ⟨"DrawerGloves", "refusedGuess", "(II)I"⟩ ∈ gtbl := mg (mp_1 (q := (⟨"DrawerGloves", "refusedGuess", "(II)I"⟩, _)) (List.mem_of_getElem? (i := 13) rfl)) rfl
theorem ms_14 : Cond.selects "DrawerGloves$Guess" (⟨"DrawerGloves$Guess", "agrees", "(LDrawerGloves$Drawer;LDrawerGloves$Rows;I)Z"⟩ : MethodName) ⟨"DrawerGloves$Guess", "agrees", "(LDrawerGloves$Drawer;LDrawerGloves$Rows;I)Z"⟩ ∈ gtbl := mg (mp_1 (q := (⟨"DrawerGloves$Guess", "agrees", "(LDrawerGloves$Drawer;LDrawerGloves$Rows;I)Z"⟩, _)) (List.mem_of_getElem? (i := 14) rfl)) rfl
theorem ms_15 : Cond.selects "DrawerGloves$Guess" (⟨"DrawerGloves$Guess", "howManyLike", "(II)I"⟩ : MethodName) ⟨"DrawerGloves$Guess", "howManyLike", "(II)I"⟩ ∈ gtbl := mg (mp_1 (q := (⟨"DrawerGloves$Guess", "howManyLike", "(II)I"⟩, _)) (List.mem_of_getElem? (i := 15) rfl)) rfl
theorem ms_16 : Cond.selects "DrawerGloves$Chances" (⟨"DrawerGloves$Chances", "waysTo", "(LDrawerGloves$Drawer;II)J"⟩ : MethodName) ⟨"DrawerGloves$Chances", "waysTo", "(LDrawerGloves$Drawer;II)J"⟩ ∈ gtbl := mg (mp_2 (q := (⟨"DrawerGloves$Chances", "waysTo", "(LDrawerGloves$Drawer;II)J"⟩, _)) (List.mem_of_getElem? (i := 0) rfl)) rfl
theorem ms_17 : Cond.selects "DrawerGloves$Drawer" (⟨"DrawerGloves$Drawer", "wearFirstPair", "()V"⟩ : MethodName) ⟨"DrawerGloves$Drawer", "wearFirstPair", "()V"⟩ ∈ gtbl := mg (mp_2 (q := (⟨"DrawerGloves$Drawer", "wearFirstPair", "()V"⟩, _)) (List.mem_of_getElem? (i := 1) rfl)) rfl
theorem ms_18 : Cond.selects "DrawerGloves" (⟨"DrawerGloves", "howManyKept", "()I"⟩ : MethodName) ⟨"DrawerGloves", "howManyKept", "()I"⟩ ∈ gtbl := mg (mp_2 (q := (⟨"DrawerGloves", "howManyKept", "()I"⟩, _)) (List.mem_of_getElem? (i := 2) rfl)) rfl
theorem ms_19 : Cond.selects "DrawerGlovesModel" (⟨"DrawerGlovesModel", "refuse", "(I)I"⟩ : MethodName) ⟨"DrawerGlovesModel", "refuse", "(I)I"⟩ ∈ gtbl := mg (mp_2 (q := (⟨"DrawerGlovesModel", "refuse", "(I)I"⟩, _)) (List.mem_of_getElem? (i := 3) rfl)) rfl
theorem ms_20 : Cond.selects "DrawerGlovesModel" (⟨"DrawerGlovesModel", "clearRow", "(II)V"⟩ : MethodName) ⟨"DrawerGlovesModel", "clearRow", "(II)V"⟩ ∈ gtbl := mg (mp_2 (q := (⟨"DrawerGlovesModel", "clearRow", "(II)V"⟩, _)) (List.mem_of_getElem? (i := 4) rfl)) rfl
theorem ms_21 : Cond.selects "DrawerGlovesModel" (⟨"DrawerGlovesModel", "tellsAsked", "(I)I"⟩ : MethodName) ⟨"DrawerGlovesModel", "tellsAsked", "(I)I"⟩ ∈ gtbl := mg (mp_2 (q := (⟨"DrawerGlovesModel", "tellsAsked", "(I)I"⟩, _)) (List.mem_of_getElem? (i := 5) rfl)) rfl
theorem ms_22 : Cond.selects "DrawerGlovesModel" (⟨"DrawerGlovesModel", "read", "(I)V"⟩ : MethodName) ⟨"DrawerGlovesModel", "read", "(I)V"⟩ ∈ gtbl := mg (mp_2 (q := (⟨"DrawerGlovesModel", "read", "(I)V"⟩, _)) (List.mem_of_getElem? (i := 6) rfl)) rfl
theorem ms_23 : Cond.selects "DrawerGlovesModel" (⟨"DrawerGlovesModel", "skip", "()V"⟩ : MethodName) ⟨"DrawerGlovesModel", "skip", "()V"⟩ ∈ gtbl := mg (mp_2 (q := (⟨"DrawerGlovesModel", "skip", "()V"⟩, _)) (List.mem_of_getElem? (i := 7) rfl)) rfl
theorem ms_24 : Cond.selects "DrawerGlovesModel" (⟨"DrawerGlovesModel", "here", "()I"⟩ : MethodName) ⟨"DrawerGlovesModel", "here", "()I"⟩ ∈ gtbl := mg (mp_2 (q := (⟨"DrawerGlovesModel", "here", "()I"⟩, _)) (List.mem_of_getElem? (i := 8) rfl)) rfl
theorem ms_25 : Cond.selects "DrawerGlovesModel" (⟨"DrawerGlovesModel", "figure", "(II)I"⟩ : MethodName) ⟨"DrawerGlovesModel", "figure", "(II)I"⟩ ∈ gtbl := mg (mp_2 (q := (⟨"DrawerGlovesModel", "figure", "(II)I"⟩, _)) (List.mem_of_getElem? (i := 9) rfl)) rfl
theorem ms_26 : Cond.selects "DrawerGlovesModel" (⟨"DrawerGlovesModel", "readGlove", "()V"⟩ : MethodName) ⟨"DrawerGlovesModel", "readGlove", "()V"⟩ ∈ gtbl := mg (mp_2 (q := (⟨"DrawerGlovesModel", "readGlove", "()V"⟩, _)) (List.mem_of_getElem? (i := 10) rfl)) rfl
theorem ms_27 : Cond.selects "DrawerGlovesModel" (⟨"DrawerGlovesModel", "goThrough", "()V"⟩ : MethodName) ⟨"DrawerGlovesModel", "goThrough", "()V"⟩ ∈ gtbl := mg (mp_2 (q := (⟨"DrawerGlovesModel", "goThrough", "()V"⟩, _)) (List.mem_of_getElem? (i := 11) rfl)) rfl
theorem ms_28 : Cond.selects "DrawerGlovesModel" (⟨"DrawerGlovesModel", "happen", "(III)V"⟩ : MethodName) ⟨"DrawerGlovesModel", "happen", "(III)V"⟩ ∈ gtbl := mg (mp_2 (q := (⟨"DrawerGlovesModel", "happen", "(III)V"⟩, _)) (List.mem_of_getElem? (i := 12) rfl)) rfl
theorem ms_29 : Cond.selects "DrawerGlovesModel" (⟨"DrawerGlovesModel", "isGlove", "(I)Z"⟩ : MethodName) ⟨"DrawerGlovesModel", "isGlove", "(I)Z"⟩ ∈ gtbl := mg (mp_2 (q := (⟨"DrawerGlovesModel", "isGlove", "(I)Z"⟩, _)) (List.mem_of_getElem? (i := 13) rfl)) rfl
theorem ms_30 : Cond.selects "DrawerGlovesModel" (⟨"DrawerGlovesModel", "ofGlove", "(II)I"⟩ : MethodName) ⟨"DrawerGlovesModel", "ofGlove", "(II)I"⟩ ∈ gtbl := mg (mp_2 (q := (⟨"DrawerGlovesModel", "ofGlove", "(II)I"⟩, _)) (List.mem_of_getElem? (i := 14) rfl)) rfl
theorem ms_31 : Cond.selects "DrawerGlovesModel" (⟨"DrawerGlovesModel", "warmthAs", "(II)I"⟩ : MethodName) ⟨"DrawerGlovesModel", "warmthAs", "(II)I"⟩ ∈ gtbl := mg (mp_2 (q := (⟨"DrawerGlovesModel", "warmthAs", "(II)I"⟩, _)) (List.mem_of_getElem? (i := 15) rfl)) rfl
theorem ms_32 : Cond.selects "DrawerGlovesModel" (⟨"DrawerGlovesModel", "pairOf", "(II)I"⟩ : MethodName) ⟨"DrawerGlovesModel", "pairOf", "(II)I"⟩ ∈ gtbl := mg (mp_3 (q := (⟨"DrawerGlovesModel", "pairOf", "(II)I"⟩, _)) (List.mem_of_getElem? (i := 0) rfl)) rfl
theorem ms_33 : Cond.selects "DrawerGlovesModel" (⟨"DrawerGlovesModel", "pairAs", "(IIIII)I"⟩ : MethodName) ⟨"DrawerGlovesModel", "pairAs", "(IIIII)I"⟩ ∈ gtbl := mg (mp_3 (q := (⟨"DrawerGlovesModel", "pairAs", "(IIIII)I"⟩, _)) (List.mem_of_getElem? (i := 1) rfl)) rfl
theorem ms_34 : Cond.selects "DrawerGlovesModel" (⟨"DrawerGlovesModel", "areTwo", "(II)Z"⟩ : MethodName) ⟨"DrawerGlovesModel", "areTwo", "(II)Z"⟩ ∈ gtbl := mg (mp_3 (q := (⟨"DrawerGlovesModel", "areTwo", "(II)Z"⟩, _)) (List.mem_of_getElem? (i := 2) rfl)) rfl
theorem ms_35 : Cond.selects "DrawerGlovesModel" (⟨"DrawerGlovesModel", "does", "(III)V"⟩ : MethodName) ⟨"DrawerGlovesModel", "does", "(III)V"⟩ ∈ gtbl := mg (mp_3 (q := (⟨"DrawerGlovesModel", "does", "(III)V"⟩, _)) (List.mem_of_getElem? (i := 3) rfl)) rfl
theorem ms_36 : Cond.selects "DrawerGlovesModel" (⟨"DrawerGlovesModel", "inDrawer", "()I"⟩ : MethodName) ⟨"DrawerGlovesModel", "inDrawer", "()I"⟩ ∈ gtbl := mg (mp_3 (q := (⟨"DrawerGlovesModel", "inDrawer", "()I"⟩, _)) (List.mem_of_getElem? (i := 4) rfl)) rfl
theorem ms_37 : Cond.selects "DrawerGlovesModel" (⟨"DrawerGlovesModel", "setIn", "(I)I"⟩ : MethodName) ⟨"DrawerGlovesModel", "setIn", "(I)I"⟩ ∈ gtbl := mg (mp_3 (q := (⟨"DrawerGlovesModel", "setIn", "(I)I"⟩, _)) (List.mem_of_getElem? (i := 5) rfl)) rfl
theorem ms_38 : Cond.selects "DrawerGlovesModel" (⟨"DrawerGlovesModel", "all", "()I"⟩ : MethodName) ⟨"DrawerGlovesModel", "all", "()I"⟩ ∈ gtbl := mg (mp_3 (q := (⟨"DrawerGlovesModel", "all", "()I"⟩, _)) (List.mem_of_getElem? (i := 6) rfl)) rfl
theorem ms_39 : Cond.selects "DrawerGlovesModel" (⟨"DrawerGlovesModel", "measure", "()V"⟩ : MethodName) ⟨"DrawerGlovesModel", "measure", "()V"⟩ ∈ gtbl := mg (mp_3 (q := (⟨"DrawerGlovesModel", "measure", "()V"⟩, _)) (List.mem_of_getElem? (i := 7) rfl)) rfl
theorem ms_40 : Cond.selects "DrawerGlovesModel" (⟨"DrawerGlovesModel", "listTwos", "()V"⟩ : MethodName) ⟨"DrawerGlovesModel", "listTwos", "()V"⟩ ∈ gtbl := mg (mp_3 (q := (⟨"DrawerGlovesModel", "listTwos", "()V"⟩, _)) (List.mem_of_getElem? (i := 8) rfl)) rfl
theorem ms_41 : Cond.selects "DrawerGlovesModel" (⟨"DrawerGlovesModel", "useOf", "(I)I"⟩ : MethodName) ⟨"DrawerGlovesModel", "useOf", "(I)I"⟩ ∈ gtbl := mg (mp_3 (q := (⟨"DrawerGlovesModel", "useOf", "(I)I"⟩, _)) (List.mem_of_getElem? (i := 9) rfl)) rfl
theorem ms_42 : Cond.selects "DrawerGlovesModel" (⟨"DrawerGlovesModel", "takeOff", "(I)V"⟩ : MethodName) ⟨"DrawerGlovesModel", "takeOff", "(I)V"⟩ ∈ gtbl := mg (mp_3 (q := (⟨"DrawerGlovesModel", "takeOff", "(I)V"⟩, _)) (List.mem_of_getElem? (i := 10) rfl)) rfl
theorem ms_43 : Cond.selects "DrawerGlovesModel" (⟨"DrawerGlovesModel", "worstOf", "(I)I"⟩ : MethodName) ⟨"DrawerGlovesModel", "worstOf", "(I)I"⟩ ∈ gtbl := mg (mp_3 (q := (⟨"DrawerGlovesModel", "worstOf", "(I)I"⟩, _)) (List.mem_of_getElem? (i := 11) rfl)) rfl
theorem ms_44 : Cond.selects "DrawerGlovesModel" (⟨"DrawerGlovesModel", "judge", "(II)I"⟩ : MethodName) ⟨"DrawerGlovesModel", "judge", "(II)I"⟩ ∈ gtbl := mg (mp_3 (q := (⟨"DrawerGlovesModel", "judge", "(II)I"⟩, _)) (List.mem_of_getElem? (i := 12) rfl)) rfl
theorem ms_45 : Cond.selects "DrawerGlovesModel" (⟨"DrawerGlovesModel", "isSo", "(IIIII)Z"⟩ : MethodName) ⟨"DrawerGlovesModel", "isSo", "(IIIII)Z"⟩ ∈ gtbl := mg (mp_3 (q := (⟨"DrawerGlovesModel", "isSo", "(IIIII)Z"⟩, _)) (List.mem_of_getElem? (i := 13) rfl)) rfl
theorem ms_46 : Cond.selects "DrawerGlovesModel" (⟨"DrawerGlovesModel", "kindsBy", "(II)I"⟩ : MethodName) ⟨"DrawerGlovesModel", "kindsBy", "(II)I"⟩ ∈ gtbl := mg (mp_3 (q := (⟨"DrawerGlovesModel", "kindsBy", "(II)I"⟩, _)) (List.mem_of_getElem? (i := 14) rfl)) rfl
theorem ms_47 : Cond.selects "DrawerGlovesModel" (⟨"DrawerGlovesModel", "partBy", "(III)I"⟩ : MethodName) ⟨"DrawerGlovesModel", "partBy", "(III)I"⟩ ∈ gtbl := mg (mp_3 (q := (⟨"DrawerGlovesModel", "partBy", "(III)I"⟩, _)) (List.mem_of_getElem? (i := 15) rfl)) rfl
theorem ms_48 : Cond.selects "DrawerGlovesModel" (⟨"DrawerGlovesModel", "hasOf", "(II)I"⟩ : MethodName) ⟨"DrawerGlovesModel", "hasOf", "(II)I"⟩ ∈ gtbl := mg (mp_4 (q := (⟨"DrawerGlovesModel", "hasOf", "(II)I"⟩, _)) (List.mem_of_getElem? (i := 0) rfl)) rfl
theorem ms_49 : Cond.selects "DrawerGlovesModel" (⟨"DrawerGlovesModel", "bestTurn", "(III)I"⟩ : MethodName) ⟨"DrawerGlovesModel", "bestTurn", "(III)I"⟩ ∈ gtbl := mg (mp_4 (q := (⟨"DrawerGlovesModel", "bestTurn", "(III)I"⟩, _)) (List.mem_of_getElem? (i := 1) rfl)) rfl
theorem ms_50 : Cond.selects "DrawerGlovesModel" (⟨"DrawerGlovesModel", "waysOf", "(IIII)J"⟩ : MethodName) ⟨"DrawerGlovesModel", "waysOf", "(IIII)J"⟩ ∈ gtbl := mg (mp_4 (q := (⟨"DrawerGlovesModel", "waysOf", "(IIII)J"⟩, _)) (List.mem_of_getElem? (i := 2) rfl)) rfl
theorem ms_51 : Cond.selects "DrawerGlovesModel" (⟨"DrawerGlovesModel", "lossOf", "(III)I"⟩ : MethodName) ⟨"DrawerGlovesModel", "lossOf", "(III)I"⟩ ∈ gtbl := mg (mp_4 (q := (⟨"DrawerGlovesModel", "lossOf", "(III)I"⟩, _)) (List.mem_of_getElem? (i := 3) rfl)) rfl
theorem ms_52 : Cond.selects "DrawerGlovesModel" (⟨"DrawerGlovesModel", "allWays", "(I)J"⟩ : MethodName) ⟨"DrawerGlovesModel", "allWays", "(I)J"⟩ ∈ gtbl := mg (mp_4 (q := (⟨"DrawerGlovesModel", "allWays", "(I)J"⟩, _)) (List.mem_of_getElem? (i := 4) rfl)) rfl
theorem ms_53 : Cond.selects "DrawerGlovesModel" (⟨"DrawerGlovesModel", "tellPart", "(JJ)V"⟩ : MethodName) ⟨"DrawerGlovesModel", "tellPart", "(JJ)V"⟩ ∈ gtbl := mg (mp_4 (q := (⟨"DrawerGlovesModel", "tellPart", "(JJ)V"⟩, _)) (List.mem_of_getElem? (i := 5) rfl)) rfl
