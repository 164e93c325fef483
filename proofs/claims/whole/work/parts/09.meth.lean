/-! fields and methods: what a call or an access needs of the tables -/
theorem vp_lt {i : Int32} {n : Nat} (h : vp_in i n) : i.toNatClampNeg < n := Nat.not_le.mp fun q => h (Or.inr q)
theorem inX0 : ∀ w ∈ u_ws RX0 TX0 7, w ∈ gtbl := List.forall_mem_cons.mpr ⟨m_1_210, List.forall_mem_cons.mpr ⟨m_1_212, List.forall_mem_cons.mpr ⟨m_1_214, List.forall_mem_cons.mpr ⟨m_1_216, List.forall_mem_cons.mpr ⟨m_1_218, List.forall_mem_cons.mpr ⟨m_1_220, List.forall_mem_cons.mpr ⟨m_1_222, fun w h => absurd h List.not_mem_nil⟩⟩⟩⟩⟩⟩⟩
theorem fb_0_0 : FB 0 0 2 "DrawerGloves$Calendar" "worn" "LDrawerGloves$Drawer;" := ⟨_, _, _, rfl, inX0, by decide, rfl, rfl, rfl, rfl, by decide⟩
theorem fb_0_1 : FB 0 1 2 "DrawerGloves$Calendar" "codes" "[I" := ⟨_, _, _, rfl, inX0, by decide, rfl, rfl, rfl, rfl, by decide⟩
theorem fb_0_2 : FB 0 2 2 "DrawerGloves$Calendar" "way" "[I" := ⟨_, _, _, rfl, inX0, by decide, rfl, rfl, rfl, rfl, by decide⟩
theorem fb_0_3 : FB 0 3 2 "DrawerGloves$Calendar" "bestWay" "[I" := ⟨_, _, _, rfl, inX0, by decide, rfl, rfl, rfl, rfl, by decide⟩
theorem fb_0_4 : FB 0 4 0 "DrawerGloves$Calendar" "size" "I" := ⟨_, _, _, rfl, inX0, by decide, rfl, rfl, rfl, rfl, by decide⟩
theorem fp_0_4 : FP 0 4 0 "DrawerGloves$Calendar" "size" "I" := ⟨_, _, _, tyX0, rfl, inX0, by decide, rfl, rfl, rfl, rfl, by decide, tyX0_ok, nmX0, rfl, by decide +kernel, rfl⟩
theorem fb_0_5 : FB 0 5 0 "DrawerGloves$Calendar" "dearest" "I" := ⟨_, _, _, rfl, inX0, by decide, rfl, rfl, rfl, rfl, by decide⟩
theorem fp_0_5 : FP 0 5 0 "DrawerGloves$Calendar" "dearest" "I" := ⟨_, _, _, tyX0, rfl, inX0, by decide, rfl, rfl, rfl, rfl, by decide, tyX0_ok, nmX0, rfl, by decide +kernel, rfl⟩
theorem fb_0_6 : FB 0 6 0 "DrawerGloves$Calendar" "best" "I" := ⟨_, _, _, rfl, inX0, by decide, rfl, rfl, rfl, rfl, by decide⟩
theorem fp_0_6 : FP 0 6 0 "DrawerGloves$Calendar" "best" "I" := ⟨_, _, _, tyX0, rfl, inX0, by decide, rfl, rfl, rfl, rfl, by decide, tyX0_ok, nmX0, rfl, by decide +kernel, rfl⟩
theorem inX1 : ∀ w ∈ u_ws RX1 TX1 3, w ∈ gtbl := List.forall_mem_cons.mpr ⟨m_2_24, List.forall_mem_cons.mpr ⟨m_2_26, List.forall_mem_cons.mpr ⟨m_2_28, fun w h => absurd h List.not_mem_nil⟩⟩⟩
theorem fb_1_0 : FB 1 0 2 "DrawerGloves$Chances" "loss" "[I" := ⟨_, _, _, rfl, inX1, by decide, rfl, rfl, rfl, rfl, by decide⟩
theorem fb_1_1 : FB 1 1 1 "DrawerGloves$Chances" "upper" "J" := ⟨_, _, _, rfl, inX1, by decide, rfl, rfl, rfl, rfl, by decide⟩
theorem fp_1_1 : FP 1 1 1 "DrawerGloves$Chances" "upper" "J" := ⟨_, _, _, tyX1, rfl, inX1, by decide, rfl, rfl, rfl, rfl, by decide, tyX1_ok, nmX1, rfl, by decide +kernel, rfl⟩
theorem fb_1_2 : FB 1 2 1 "DrawerGloves$Chances" "lower" "J" := ⟨_, _, _, rfl, inX1, by decide, rfl, rfl, rfl, rfl, by decide⟩
theorem fp_1_2 : FP 1 2 1 "DrawerGloves$Chances" "lower" "J" := ⟨_, _, _, tyX1, rfl, inX1, by decide, rfl, rfl, rfl, rfl, by decide, tyX1_ok, nmX1, rfl, by decide +kernel, rfl⟩
theorem inX2 : ∀ w ∈ u_ws RX2 TX2 2, w ∈ gtbl := List.forall_mem_cons.mpr ⟨m_1_99, List.forall_mem_cons.mpr ⟨m_1_101, fun w h => absurd h List.not_mem_nil⟩⟩
theorem fb_2_0 : FB 2 0 2 "DrawerGloves$Deeds" "codes" "[I" := ⟨_, _, _, rfl, inX2, by decide, rfl, rfl, rfl, rfl, by decide⟩
theorem fb_2_1 : FB 2 1 0 "DrawerGloves$Deeds" "size" "I" := ⟨_, _, _, rfl, inX2, by decide, rfl, rfl, rfl, rfl, by decide⟩
theorem fp_2_1 : FP 2 1 0 "DrawerGloves$Deeds" "size" "I" := ⟨_, _, _, tyX2, rfl, inX2, by decide, rfl, rfl, rfl, rfl, by decide, tyX2_ok, nmX2, rfl, by decide +kernel, rfl⟩
theorem inX3 : ∀ w ∈ u_ws RX3 TX3 4, w ∈ gtbl := List.forall_mem_cons.mpr ⟨m_1_160, List.forall_mem_cons.mpr ⟨m_1_162, List.forall_mem_cons.mpr ⟨m_1_164, List.forall_mem_cons.mpr ⟨m_1_166, fun w h => absurd h List.not_mem_nil⟩⟩⟩⟩
theorem fb_3_0 : FB 3 0 2 "DrawerGloves$Drawer" "gloves" "[LDrawerGloves$Glove;" := ⟨_, _, _, rfl, inX3, by decide, rfl, rfl, rfl, rfl, by decide⟩
theorem fb_3_1 : FB 3 1 2 "DrawerGloves$Drawer" "deeds" "LDrawerGloves$Deeds;" := ⟨_, _, _, rfl, inX3, by decide, rfl, rfl, rfl, rfl, by decide⟩
theorem fb_3_2 : FB 3 2 0 "DrawerGloves$Drawer" "size" "I" := ⟨_, _, _, rfl, inX3, by decide, rfl, rfl, rfl, rfl, by decide⟩
theorem fp_3_2 : FP 3 2 0 "DrawerGloves$Drawer" "size" "I" := ⟨_, _, _, tyX3, rfl, inX3, by decide, rfl, rfl, rfl, rfl, by decide, tyX3_ok, nmX3, rfl, by decide +kernel, rfl⟩
theorem fb_3_3 : FB 3 3 0 "DrawerGloves$Drawer" "room" "I" := ⟨_, _, _, rfl, inX3, by decide, rfl, rfl, rfl, rfl, by decide⟩
theorem fp_3_3 : FP 3 3 0 "DrawerGloves$Drawer" "room" "I" := ⟨_, _, _, tyX3, rfl, inX3, by decide, rfl, rfl, rfl, rfl, by decide, tyX3_ok, nmX3, rfl, by decide +kernel, rfl⟩
theorem inX4 : ∀ w ∈ u_ws RX4 TX4 6, w ∈ gtbl := List.forall_mem_cons.mpr ⟨m_1_130, List.forall_mem_cons.mpr ⟨m_1_132, List.forall_mem_cons.mpr ⟨m_1_134, List.forall_mem_cons.mpr ⟨m_1_136, List.forall_mem_cons.mpr ⟨m_1_138, List.forall_mem_cons.mpr ⟨m_1_140, fun w h => absurd h List.not_mem_nil⟩⟩⟩⟩⟩⟩
theorem fb_4_0 : FB 4 0 0 "DrawerGloves$Glove" "kind" "I" := ⟨_, _, _, rfl, inX4, by decide, rfl, rfl, rfl, rfl, by decide⟩
theorem fp_4_0 : FP 4 0 0 "DrawerGloves$Glove" "kind" "I" := ⟨_, _, _, tyX4, rfl, inX4, by decide, rfl, rfl, rfl, rfl, by decide, tyX4_ok, nmX4, rfl, by decide +kernel, rfl⟩
theorem fb_4_1 : FB 4 1 0 "DrawerGloves$Glove" "sort" "I" := ⟨_, _, _, rfl, inX4, by decide, rfl, rfl, rfl, rfl, by decide⟩
theorem fp_4_1 : FP 4 1 0 "DrawerGloves$Glove" "sort" "I" := ⟨_, _, _, tyX4, rfl, inX4, by decide, rfl, rfl, rfl, rfl, by decide, tyX4_ok, nmX4, rfl, by decide +kernel, rfl⟩
theorem fb_4_2 : FB 4 2 0 "DrawerGloves$Glove" "hand" "I" := ⟨_, _, _, rfl, inX4, by decide, rfl, rfl, rfl, rfl, by decide⟩
theorem fp_4_2 : FP 4 2 0 "DrawerGloves$Glove" "hand" "I" := ⟨_, _, _, tyX4, rfl, inX4, by decide, rfl, rfl, rfl, rfl, by decide, tyX4_ok, nmX4, rfl, by decide +kernel, rfl⟩
theorem fb_4_3 : FB 4 3 0 "DrawerGloves$Glove" "warm" "I" := ⟨_, _, _, rfl, inX4, by decide, rfl, rfl, rfl, rfl, by decide⟩
theorem fp_4_3 : FP 4 3 0 "DrawerGloves$Glove" "warm" "I" := ⟨_, _, _, tyX4, rfl, inX4, by decide, rfl, rfl, rfl, rfl, by decide, tyX4_ok, nmX4, rfl, by decide +kernel, rfl⟩
theorem fb_4_4 : FB 4 4 0 "DrawerGloves$Glove" "wear" "I" := ⟨_, _, _, rfl, inX4, by decide, rfl, rfl, rfl, rfl, by decide⟩
theorem fp_4_4 : FP 4 4 0 "DrawerGloves$Glove" "wear" "I" := ⟨_, _, _, tyX4, rfl, inX4, by decide, rfl, rfl, rfl, rfl, by decide, tyX4_ok, nmX4, rfl, by decide +kernel, rfl⟩
theorem fb_4_5 : FB 4 5 0 "DrawerGloves$Glove" "where" "I" := ⟨_, _, _, rfl, inX4, by decide, rfl, rfl, rfl, rfl, by decide⟩
theorem fp_4_5 : FP 4 5 0 "DrawerGloves$Glove" "where" "I" := ⟨_, _, _, tyX4, rfl, inX4, by decide, rfl, rfl, rfl, rfl, by decide, tyX4_ok, nmX4, rfl, by decide +kernel, rfl⟩
theorem inX5 : ∀ w ∈ u_ws RX5 TX5 2, w ∈ gtbl := List.forall_mem_cons.mpr ⟨m_1_235, List.forall_mem_cons.mpr ⟨m_1_237, fun w h => absurd h List.not_mem_nil⟩⟩
theorem fb_5_0 : FB 5 0 2 "DrawerGloves$Guess" "maybe" "LDrawerGloves$Glove;" := ⟨_, _, _, rfl, inX5, by decide, rfl, rfl, rfl, rfl, by decide⟩
theorem fb_5_1 : FB 5 1 2 "DrawerGloves$Guess" "outcome" "[I" := ⟨_, _, _, rfl, inX5, by decide, rfl, rfl, rfl, rfl, by decide⟩
theorem inX6 : ∀ w ∈ u_ws RX6 TX6 4, w ∈ gtbl := List.forall_mem_cons.mpr ⟨m_1_186, List.forall_mem_cons.mpr ⟨m_1_188, List.forall_mem_cons.mpr ⟨m_1_190, List.forall_mem_cons.mpr ⟨m_1_192, fun w h => absurd h List.not_mem_nil⟩⟩⟩⟩
theorem fb_6_0 : FB 6 0 2 "DrawerGloves$Makings" "worth" "[I" := ⟨_, _, _, rfl, inX6, by decide, rfl, rfl, rfl, rfl, by decide⟩
theorem fb_6_1 : FB 6 1 2 "DrawerGloves$Makings" "best" "[I" := ⟨_, _, _, rfl, inX6, by decide, rfl, rfl, rfl, rfl, by decide⟩
theorem fb_6_2 : FB 6 2 2 "DrawerGloves$Makings" "most" "[I" := ⟨_, _, _, rfl, inX6, by decide, rfl, rfl, rfl, rfl, by decide⟩
theorem fb_6_3 : FB 6 3 2 "DrawerGloves$Makings" "enough" "[I" := ⟨_, _, _, rfl, inX6, by decide, rfl, rfl, rfl, rfl, by decide⟩
theorem inX7 : ∀ w ∈ u_ws RX7 TX7 6, w ∈ gtbl := List.forall_mem_cons.mpr ⟨m_1_67, List.forall_mem_cons.mpr ⟨m_1_69, List.forall_mem_cons.mpr ⟨m_1_71, List.forall_mem_cons.mpr ⟨m_1_73, List.forall_mem_cons.mpr ⟨m_1_75, List.forall_mem_cons.mpr ⟨m_1_77, fun w h => absurd h List.not_mem_nil⟩⟩⟩⟩⟩⟩
theorem fb_7_0 : FB 7 0 2 "DrawerGloves$Reading" "kind" "[I" := ⟨_, _, _, rfl, inX7, by decide, rfl, rfl, rfl, rfl, by decide⟩
theorem fb_7_1 : FB 7 1 2 "DrawerGloves$Reading" "sort" "[I" := ⟨_, _, _, rfl, inX7, by decide, rfl, rfl, rfl, rfl, by decide⟩
theorem fb_7_2 : FB 7 2 2 "DrawerGloves$Reading" "hand" "[I" := ⟨_, _, _, rfl, inX7, by decide, rfl, rfl, rfl, rfl, by decide⟩
theorem fb_7_3 : FB 7 3 2 "DrawerGloves$Reading" "warm" "[I" := ⟨_, _, _, rfl, inX7, by decide, rfl, rfl, rfl, rfl, by decide⟩
theorem fb_7_4 : FB 7 4 0 "DrawerGloves$Reading" "size" "I" := ⟨_, _, _, rfl, inX7, by decide, rfl, rfl, rfl, rfl, by decide⟩
theorem fp_7_4 : FP 7 4 0 "DrawerGloves$Reading" "size" "I" := ⟨_, _, _, tyX7, rfl, inX7, by decide, rfl, rfl, rfl, rfl, by decide, tyX7_ok, nmX7, rfl, by decide +kernel, rfl⟩
theorem fb_7_5 : FB 7 5 0 "DrawerGloves$Reading" "room" "I" := ⟨_, _, _, rfl, inX7, by decide, rfl, rfl, rfl, rfl, by decide⟩
theorem fp_7_5 : FP 7 5 0 "DrawerGloves$Reading" "room" "I" := ⟨_, _, _, tyX7, rfl, inX7, by decide, rfl, rfl, rfl, rfl, by decide, tyX7_ok, nmX7, rfl, by decide +kernel, rfl⟩
theorem inX8 : ∀ w ∈ u_ws RX8 TX8 2, w ∈ gtbl := List.forall_mem_cons.mpr ⟨m_2_8, List.forall_mem_cons.mpr ⟨m_2_10, fun w h => absurd h List.not_mem_nil⟩⟩
theorem fb_8_0 : FB 8 0 2 "DrawerGloves$Rivals" "known" "[I" := ⟨_, _, _, rfl, inX8, by decide, rfl, rfl, rfl, rfl, by decide⟩
theorem fb_8_1 : FB 8 1 2 "DrawerGloves$Rivals" "inThrees" "[I" := ⟨_, _, _, rfl, inX8, by decide, rfl, rfl, rfl, rfl, by decide⟩
theorem inX9 : ∀ w ∈ u_ws RX9 TX9 4, w ∈ gtbl := List.forall_mem_cons.mpr ⟨m_1_39, List.forall_mem_cons.mpr ⟨m_1_41, List.forall_mem_cons.mpr ⟨m_1_43, List.forall_mem_cons.mpr ⟨m_1_45, fun w h => absurd h List.not_mem_nil⟩⟩⟩⟩
theorem fb_9_0 : FB 9 0 2 "DrawerGloves$Rows" "places" "[[I" := ⟨_, _, _, rfl, inX9, by decide, rfl, rfl, rfl, rfl, by decide⟩
theorem fb_9_1 : FB 9 1 2 "DrawerGloves$Rows" "sizes" "[I" := ⟨_, _, _, rfl, inX9, by decide, rfl, rfl, rfl, rfl, by decide⟩
theorem fb_9_2 : FB 9 2 0 "DrawerGloves$Rows" "mostPlaces" "I" := ⟨_, _, _, rfl, inX9, by decide, rfl, rfl, rfl, rfl, by decide⟩
theorem fb_9_3 : FB 9 3 0 "DrawerGloves$Rows" "filler" "I" := ⟨_, _, _, rfl, inX9, by decide, rfl, rfl, rfl, rfl, by decide⟩
theorem inX10 : ∀ w ∈ u_ws RX10 TX10 13, w ∈ gtbl := List.forall_mem_cons.mpr ⟨m_2_44, List.forall_mem_cons.mpr ⟨m_2_46, List.forall_mem_cons.mpr ⟨m_2_48, List.forall_mem_cons.mpr ⟨m_2_50, List.forall_mem_cons.mpr ⟨m_2_52, List.forall_mem_cons.mpr ⟨m_2_54, List.forall_mem_cons.mpr ⟨m_2_56, List.forall_mem_cons.mpr ⟨m_2_58, List.forall_mem_cons.mpr ⟨m_2_60, List.forall_mem_cons.mpr ⟨m_2_62, List.forall_mem_cons.mpr ⟨m_2_64, List.forall_mem_cons.mpr ⟨m_2_66, List.forall_mem_cons.mpr ⟨m_2_68, fun w h => absurd h List.not_mem_nil⟩⟩⟩⟩⟩⟩⟩⟩⟩⟩⟩⟩⟩
theorem fb_10_0 : FB 10 0 2 "DrawerGloves" "rows" "LDrawerGloves$Rows;" := ⟨_, _, _, rfl, inX10, by decide, rfl, rfl, rfl, rfl, by decide⟩
theorem fb_10_1 : FB 10 1 2 "DrawerGloves" "texts" "LDrawerGloves$Rows;" := ⟨_, _, _, rfl, inX10, by decide, rfl, rfl, rfl, rfl, by decide⟩
theorem fb_10_2 : FB 10 2 2 "DrawerGloves" "reading" "LDrawerGloves$Reading;" := ⟨_, _, _, rfl, inX10, by decide, rfl, rfl, rfl, rfl, by decide⟩
theorem fb_10_3 : FB 10 3 2 "DrawerGloves" "chest" "LDrawerGloves$Drawer;" := ⟨_, _, _, rfl, inX10, by decide, rfl, rfl, rfl, rfl, by decide⟩
theorem fb_10_4 : FB 10 4 2 "DrawerGloves" "kept" "[LDrawerGloves$Deeds;" := ⟨_, _, _, rfl, inX10, by decide, rfl, rfl, rfl, rfl, by decide⟩
theorem fb_10_5 : FB 10 5 2 "DrawerGloves" "makings" "LDrawerGloves$Makings;" := ⟨_, _, _, rfl, inX10, by decide, rfl, rfl, rfl, rfl, by decide⟩
theorem fb_10_6 : FB 10 6 2 "DrawerGloves" "calendar" "LDrawerGloves$Calendar;" := ⟨_, _, _, rfl, inX10, by decide, rfl, rfl, rfl, rfl, by decide⟩
theorem fb_10_7 : FB 10 7 2 "DrawerGloves" "guess" "LDrawerGloves$Guess;" := ⟨_, _, _, rfl, inX10, by decide, rfl, rfl, rfl, rfl, by decide⟩
theorem fb_10_8 : FB 10 8 2 "DrawerGloves" "rivals" "LDrawerGloves$Rivals;" := ⟨_, _, _, rfl, inX10, by decide, rfl, rfl, rfl, rfl, by decide⟩
theorem fb_10_9 : FB 10 9 2 "DrawerGloves" "chances" "LDrawerGloves$Chances;" := ⟨_, _, _, rfl, inX10, by decide, rfl, rfl, rfl, rfl, by decide⟩
theorem fb_10_10 : FB 10 10 2 "DrawerGloves" "found" "[I" := ⟨_, _, _, rfl, inX10, by decide, rfl, rfl, rfl, rfl, by decide⟩
theorem fb_10_11 : FB 10 11 0 "DrawerGloves" "lastFound" "I" := ⟨_, _, _, rfl, inX10, by decide, rfl, rfl, rfl, rfl, by decide⟩
theorem fp_10_11 : FP 10 11 0 "DrawerGloves" "lastFound" "I" := ⟨_, _, _, tyX10, rfl, inX10, by decide, rfl, rfl, rfl, rfl, by decide, tyX10_ok, nmX10, rfl, by decide +kernel, rfl⟩
theorem fb_10_12 : FB 10 12 0 "DrawerGloves" "lastAsked" "I" := ⟨_, _, _, rfl, inX10, by decide, rfl, rfl, rfl, rfl, by decide⟩
theorem fp_10_12 : FP 10 12 0 "DrawerGloves" "lastAsked" "I" := ⟨_, _, _, tyX10, rfl, inX10, by decide, rfl, rfl, rfl, rfl, by decide, tyX10_ok, nmX10, rfl, by decide +kernel, rfl⟩
theorem inX11 : ∀ w ∈ u_ws RX11 TX11 36, w ∈ gtbl := List.forall_mem_cons.mpr ⟨m_4_191, List.forall_mem_cons.mpr ⟨m_4_193, List.forall_mem_cons.mpr ⟨m_4_195, List.forall_mem_cons.mpr ⟨m_4_197, List.forall_mem_cons.mpr ⟨m_4_199, List.forall_mem_cons.mpr ⟨m_4_201, List.forall_mem_cons.mpr ⟨m_4_203, List.forall_mem_cons.mpr ⟨m_4_205, List.forall_mem_cons.mpr ⟨m_4_207, List.forall_mem_cons.mpr ⟨m_4_209, List.forall_mem_cons.mpr ⟨m_4_211, List.forall_mem_cons.mpr ⟨m_4_213, List.forall_mem_cons.mpr ⟨m_4_215, List.forall_mem_cons.mpr ⟨m_4_217, List.forall_mem_cons.mpr ⟨m_4_219, List.forall_mem_cons.mpr ⟨m_4_221, List.forall_mem_cons.mpr ⟨m_4_223, List.forall_mem_cons.mpr ⟨m_4_225, List.forall_mem_cons.mpr ⟨m_4_227, List.forall_mem_cons.mpr ⟨m_4_229, List.forall_mem_cons.mpr ⟨m_4_231, List.forall_mem_cons.mpr ⟨m_4_233, List.forall_mem_cons.mpr ⟨m_4_235, List.forall_mem_cons.mpr ⟨m_4_237, List.forall_mem_cons.mpr ⟨m_4_239, List.forall_mem_cons.mpr ⟨m_5_1, List.forall_mem_cons.mpr ⟨m_5_3, List.forall_mem_cons.mpr ⟨m_5_5, List.forall_mem_cons.mpr ⟨m_5_7, List.forall_mem_cons.mpr ⟨m_5_9, List.forall_mem_cons.mpr ⟨m_5_11, List.forall_mem_cons.mpr ⟨m_5_13, List.forall_mem_cons.mpr ⟨m_5_15, List.forall_mem_cons.mpr ⟨m_5_17, List.forall_mem_cons.mpr ⟨m_5_19, List.forall_mem_cons.mpr ⟨m_5_21, fun w h => absurd h List.not_mem_nil⟩⟩⟩⟩⟩⟩⟩⟩⟩⟩⟩⟩⟩⟩⟩⟩⟩⟩⟩⟩⟩⟩⟩⟩⟩⟩⟩⟩⟩⟩⟩⟩⟩⟩⟩⟩
theorem fb_11_0 : FB 11 0 0 "DrawerGlovesModel" "asked" "I" := ⟨_, _, _, rfl, inX11, by decide, rfl, rfl, rfl, rfl, by decide⟩
theorem fp_11_0 : FP 11 0 0 "DrawerGlovesModel" "asked" "I" := ⟨_, _, _, tyX11, rfl, inX11, by decide, rfl, rfl, rfl, rfl, by decide, tyX11_ok, nmX11, rfl, by decide +kernel, rfl⟩
theorem fb_11_1 : FB 11 1 1 "DrawerGlovesModel" "up" "J" := ⟨_, _, _, rfl, inX11, by decide, rfl, rfl, rfl, rfl, by decide⟩
theorem fp_11_1 : FP 11 1 1 "DrawerGlovesModel" "up" "J" := ⟨_, _, _, tyX11, rfl, inX11, by decide, rfl, rfl, rfl, rfl, by decide, tyX11_ok, nmX11, rfl, by decide +kernel, rfl⟩
theorem fb_11_2 : FB 11 2 1 "DrawerGlovesModel" "down" "J" := ⟨_, _, _, rfl, inX11, by decide, rfl, rfl, rfl, rfl, by decide⟩
theorem fp_11_2 : FP 11 2 1 "DrawerGlovesModel" "down" "J" := ⟨_, _, _, tyX11, rfl, inX11, by decide, rfl, rfl, rfl, rfl, by decide, tyX11_ok, nmX11, rfl, by decide +kernel, rfl⟩
theorem fb_11_3 : FB 11 3 0 "DrawerGlovesModel" "latest" "I" := ⟨_, _, _, rfl, inX11, by decide, rfl, rfl, rfl, rfl, by decide⟩
theorem fp_11_3 : FP 11 3 0 "DrawerGlovesModel" "latest" "I" := ⟨_, _, _, tyX11, rfl, inX11, by decide, rfl, rfl, rfl, rfl, by decide, tyX11_ok, nmX11, rfl, by decide +kernel, rfl⟩
theorem fb_11_4 : FB 11 4 2 "DrawerGlovesModel" "found" "[I" := ⟨_, _, _, rfl, inX11, by decide, rfl, rfl, rfl, rfl, by decide⟩
theorem fb_11_5 : FB 11 5 2 "DrawerGlovesModel" "cells" "[I" := ⟨_, _, _, rfl, inX11, by decide, rfl, rfl, rfl, rfl, by decide⟩
theorem fb_11_6 : FB 11 6 2 "DrawerGlovesModel" "rowSize" "[I" := ⟨_, _, _, rfl, inX11, by decide, rfl, rfl, rfl, rfl, by decide⟩
theorem fb_11_7 : FB 11 7 2 "DrawerGlovesModel" "bytes" "[B" := ⟨_, _, _, rfl, inX11, by decide, rfl, rfl, rfl, rfl, by decide⟩
theorem fb_11_8 : FB 11 8 2 "DrawerGlovesModel" "textSize" "[I" := ⟨_, _, _, rfl, inX11, by decide, rfl, rfl, rfl, rfl, by decide⟩
theorem fb_11_9 : FB 11 9 2 "DrawerGlovesModel" "taken" "[I" := ⟨_, _, _, rfl, inX11, by decide, rfl, rfl, rfl, rfl, by decide⟩
theorem fb_11_10 : FB 11 10 0 "DrawerGlovesModel" "draftRoom" "I" := ⟨_, _, _, rfl, inX11, by decide, rfl, rfl, rfl, rfl, by decide⟩
theorem fp_11_10 : FP 11 10 0 "DrawerGlovesModel" "draftRoom" "I" := ⟨_, _, _, tyX11, rfl, inX11, by decide, rfl, rfl, rfl, rfl, by decide, tyX11_ok, nmX11, rfl, by decide +kernel, rfl⟩
theorem fb_11_11 : FB 11 11 0 "DrawerGlovesModel" "draftGloves" "I" := ⟨_, _, _, rfl, inX11, by decide, rfl, rfl, rfl, rfl, by decide⟩
theorem fp_11_11 : FP 11 11 0 "DrawerGlovesModel" "draftGloves" "I" := ⟨_, _, _, tyX11, rfl, inX11, by decide, rfl, rfl, rfl, rfl, by decide, tyX11_ok, nmX11, rfl, by decide +kernel, rfl⟩
theorem fb_11_12 : FB 11 12 2 "DrawerGlovesModel" "draftKind" "[I" := ⟨_, _, _, rfl, inX11, by decide, rfl, rfl, rfl, rfl, by decide⟩
theorem fb_11_13 : FB 11 13 2 "DrawerGlovesModel" "draftSort" "[I" := ⟨_, _, _, rfl, inX11, by decide, rfl, rfl, rfl, rfl, by decide⟩
theorem fb_11_14 : FB 11 14 2 "DrawerGlovesModel" "draftHand" "[I" := ⟨_, _, _, rfl, inX11, by decide, rfl, rfl, rfl, rfl, by decide⟩
theorem fb_11_15 : FB 11 15 2 "DrawerGlovesModel" "draftWarm" "[I" := ⟨_, _, _, rfl, inX11, by decide, rfl, rfl, rfl, rfl, by decide⟩
theorem fb_11_16 : FB 11 16 0 "DrawerGlovesModel" "reading" "I" := ⟨_, _, _, rfl, inX11, by decide, rfl, rfl, rfl, rfl, by decide⟩
theorem fp_11_16 : FP 11 16 0 "DrawerGlovesModel" "reading" "I" := ⟨_, _, _, tyX11, rfl, inX11, by decide, rfl, rfl, rfl, rfl, by decide, tyX11_ok, nmX11, rfl, by decide +kernel, rfl⟩
theorem fb_11_17 : FB 11 17 0 "DrawerGlovesModel" "place" "I" := ⟨_, _, _, rfl, inX11, by decide, rfl, rfl, rfl, rfl, by decide⟩
theorem fp_11_17 : FP 11 17 0 "DrawerGlovesModel" "place" "I" := ⟨_, _, _, tyX11, rfl, inX11, by decide, rfl, rfl, rfl, rfl, by decide, tyX11_ok, nmX11, rfl, by decide +kernel, rfl⟩
theorem fb_11_18 : FB 11 18 0 "DrawerGlovesModel" "fault" "I" := ⟨_, _, _, rfl, inX11, by decide, rfl, rfl, rfl, rfl, by decide⟩
theorem fp_11_18 : FP 11 18 0 "DrawerGlovesModel" "fault" "I" := ⟨_, _, _, tyX11, rfl, inX11, by decide, rfl, rfl, rfl, rfl, by decide, tyX11_ok, nmX11, rfl, by decide +kernel, rfl⟩
theorem fb_11_19 : FB 11 19 0 "DrawerGlovesModel" "room" "I" := ⟨_, _, _, rfl, inX11, by decide, rfl, rfl, rfl, rfl, by decide⟩
theorem fp_11_19 : FP 11 19 0 "DrawerGlovesModel" "room" "I" := ⟨_, _, _, tyX11, rfl, inX11, by decide, rfl, rfl, rfl, rfl, by decide, tyX11_ok, nmX11, rfl, by decide +kernel, rfl⟩
theorem fb_11_20 : FB 11 20 0 "DrawerGlovesModel" "gloves" "I" := ⟨_, _, _, rfl, inX11, by decide, rfl, rfl, rfl, rfl, by decide⟩
theorem fp_11_20 : FP 11 20 0 "DrawerGlovesModel" "gloves" "I" := ⟨_, _, _, tyX11, rfl, inX11, by decide, rfl, rfl, rfl, rfl, by decide, tyX11_ok, nmX11, rfl, by decide +kernel, rfl⟩
theorem fb_11_21 : FB 11 21 2 "DrawerGlovesModel" "kind" "[I" := ⟨_, _, _, rfl, inX11, by decide, rfl, rfl, rfl, rfl, by decide⟩
theorem fb_11_22 : FB 11 22 2 "DrawerGlovesModel" "sort" "[I" := ⟨_, _, _, rfl, inX11, by decide, rfl, rfl, rfl, rfl, by decide⟩
theorem fb_11_23 : FB 11 23 2 "DrawerGlovesModel" "hand" "[I" := ⟨_, _, _, rfl, inX11, by decide, rfl, rfl, rfl, rfl, by decide⟩
theorem fb_11_24 : FB 11 24 2 "DrawerGlovesModel" "warm" "[I" := ⟨_, _, _, rfl, inX11, by decide, rfl, rfl, rfl, rfl, by decide⟩
theorem fb_11_25 : FB 11 25 2 "DrawerGlovesModel" "where" "[I" := ⟨_, _, _, rfl, inX11, by decide, rfl, rfl, rfl, rfl, by decide⟩
theorem fb_11_26 : FB 11 26 2 "DrawerGlovesModel" "worn" "[I" := ⟨_, _, _, rfl, inX11, by decide, rfl, rfl, rfl, rfl, by decide⟩
theorem fb_11_27 : FB 11 27 0 "DrawerGlovesModel" "deeds" "I" := ⟨_, _, _, rfl, inX11, by decide, rfl, rfl, rfl, rfl, by decide⟩
theorem fp_11_27 : FP 11 27 0 "DrawerGlovesModel" "deeds" "I" := ⟨_, _, _, tyX11, rfl, inX11, by decide, rfl, rfl, rfl, rfl, by decide, tyX11_ok, nmX11, rfl, by decide +kernel, rfl⟩
theorem fb_11_28 : FB 11 28 2 "DrawerGlovesModel" "deed" "[I" := ⟨_, _, _, rfl, inX11, by decide, rfl, rfl, rfl, rfl, by decide⟩
theorem fb_11_29 : FB 11 29 2 "DrawerGlovesModel" "keptDeeds" "[I" := ⟨_, _, _, rfl, inX11, by decide, rfl, rfl, rfl, rfl, by decide⟩
theorem fb_11_30 : FB 11 30 2 "DrawerGlovesModel" "keptDeed" "[I" := ⟨_, _, _, rfl, inX11, by decide, rfl, rfl, rfl, rfl, by decide⟩
theorem fb_11_31 : FB 11 31 2 "DrawerGlovesModel" "best" "[I" := ⟨_, _, _, rfl, inX11, by decide, rfl, rfl, rfl, rfl, by decide⟩
theorem fb_11_32 : FB 11 32 2 "DrawerGlovesModel" "most" "[I" := ⟨_, _, _, rfl, inX11, by decide, rfl, rfl, rfl, rfl, by decide⟩
theorem fb_11_33 : FB 11 33 2 "DrawerGlovesModel" "twos" "[I" := ⟨_, _, _, rfl, inX11, by decide, rfl, rfl, rfl, rfl, by decide⟩
theorem fb_11_34 : FB 11 34 0 "DrawerGlovesModel" "many" "I" := ⟨_, _, _, rfl, inX11, by decide, rfl, rfl, rfl, rfl, by decide⟩
theorem fp_11_34 : FP 11 34 0 "DrawerGlovesModel" "many" "I" := ⟨_, _, _, tyX11, rfl, inX11, by decide, rfl, rfl, rfl, rfl, by decide, tyX11_ok, nmX11, rfl, by decide +kernel, rfl⟩
theorem fb_11_35 : FB 11 35 2 "DrawerGlovesModel" "worth" "[I" := ⟨_, _, _, rfl, inX11, by decide, rfl, rfl, rfl, rfl, by decide⟩
theorem kd_cases (p : Nat → Bool) (h : (List.range nT).all p = true) (h99 : ∀ a, nT ≤ a → p a = true) (a : Nat) : p a = true := by
  rcases Nat.lt_or_ge a nT with q | q
  · exact List.all_eq_true.mp h a (List.mem_range.mpr q)
  · exact h99 a q
theorem kd_big {a : Nat} (h : nT ≤ a) : kd a = 99 := by
  unfold kd
  rw [List.getD_eq_getElem?_getD, List.getElem?_eq_none (show kdL.length ≤ a from h)]
  rfl
theorem kdf_0_0 {a : Nat} (h : kd a = 0) : kd (rf a 0) = 3 := by
  have h2 := kd_cases (fun a => (kd a != 0) || (kd (rf a 0) == 3)) (by decide +kernel) (fun a q => by simp [kd_big q]) a
  simp only [h, bne_self_eq_false, Bool.false_or, beq_iff_eq] at h2
  exact h2
theorem kdf_0_1 {a : Nat} (h : kd a = 0) : kd (rf a 1) = 20 := by
  have h2 := kd_cases (fun a => (kd a != 0) || (kd (rf a 1) == 20)) (by decide +kernel) (fun a q => by simp [kd_big q]) a
  simp only [h, bne_self_eq_false, Bool.false_or, beq_iff_eq] at h2
  exact h2
theorem lnf_0_1 {a : Nat} (h : kd a = 0) : ln (rf a 1) = 64 := by
  have h2 := kd_cases (fun a => (kd a != 0) || (ln (rf a 1) == 64)) (by decide +kernel) (fun a q => by simp [kd_big q]) a
  simp only [h, bne_self_eq_false, Bool.false_or, beq_iff_eq] at h2
  exact h2
theorem kdf_0_2 {a : Nat} (h : kd a = 0) : kd (rf a 2) = 20 := by
  have h2 := kd_cases (fun a => (kd a != 0) || (kd (rf a 2) == 20)) (by decide +kernel) (fun a q => by simp [kd_big q]) a
  simp only [h, bne_self_eq_false, Bool.false_or, beq_iff_eq] at h2
  exact h2
theorem lnf_0_2 {a : Nat} (h : kd a = 0) : ln (rf a 2) = 3 := by
  have h2 := kd_cases (fun a => (kd a != 0) || (ln (rf a 2) == 3)) (by decide +kernel) (fun a q => by simp [kd_big q]) a
  simp only [h, bne_self_eq_false, Bool.false_or, beq_iff_eq] at h2
  exact h2
theorem kdf_0_3 {a : Nat} (h : kd a = 0) : kd (rf a 3) = 20 := by
  have h2 := kd_cases (fun a => (kd a != 0) || (kd (rf a 3) == 20)) (by decide +kernel) (fun a q => by simp [kd_big q]) a
  simp only [h, bne_self_eq_false, Bool.false_or, beq_iff_eq] at h2
  exact h2
theorem lnf_0_3 {a : Nat} (h : kd a = 0) : ln (rf a 3) = 3 := by
  have h2 := kd_cases (fun a => (kd a != 0) || (ln (rf a 3) == 3)) (by decide +kernel) (fun a q => by simp [kd_big q]) a
  simp only [h, bne_self_eq_false, Bool.false_or, beq_iff_eq] at h2
  exact h2
theorem kdf_1_0 {a : Nat} (h : kd a = 1) : kd (rf a 0) = 20 := by
  have h2 := kd_cases (fun a => (kd a != 1) || (kd (rf a 0) == 20)) (by decide +kernel) (fun a q => by simp [kd_big q]) a
  simp only [h, bne_self_eq_false, Bool.false_or, beq_iff_eq] at h2
  exact h2
theorem lnf_1_0 {a : Nat} (h : kd a = 1) : ln (rf a 0) = 8 := by
  have h2 := kd_cases (fun a => (kd a != 1) || (ln (rf a 0) == 8)) (by decide +kernel) (fun a q => by simp [kd_big q]) a
  simp only [h, bne_self_eq_false, Bool.false_or, beq_iff_eq] at h2
  exact h2
theorem kdf_2_0 {a : Nat} (h : kd a = 2) : kd (rf a 0) = 20 := by
  have h2 := kd_cases (fun a => (kd a != 2) || (kd (rf a 0) == 20)) (by decide +kernel) (fun a q => by simp [kd_big q]) a
  simp only [h, bne_self_eq_false, Bool.false_or, beq_iff_eq] at h2
  exact h2
theorem lnf_2_0 {a : Nat} (h : kd a = 2) : ln (rf a 0) = 40 := by
  have h2 := kd_cases (fun a => (kd a != 2) || (ln (rf a 0) == 40)) (by decide +kernel) (fun a q => by simp [kd_big q]) a
  simp only [h, bne_self_eq_false, Bool.false_or, beq_iff_eq] at h2
  exact h2
theorem kdf_3_0 {a : Nat} (h : kd a = 3) : kd (rf a 0) = 23 := by
  have h2 := kd_cases (fun a => (kd a != 3) || (kd (rf a 0) == 23)) (by decide +kernel) (fun a q => by simp [kd_big q]) a
  simp only [h, bne_self_eq_false, Bool.false_or, beq_iff_eq] at h2
  exact h2
theorem lnf_3_0 {a : Nat} (h : kd a = 3) : ln (rf a 0) = 8 := by
  have h2 := kd_cases (fun a => (kd a != 3) || (ln (rf a 0) == 8)) (by decide +kernel) (fun a q => by simp [kd_big q]) a
  simp only [h, bne_self_eq_false, Bool.false_or, beq_iff_eq] at h2
  exact h2
theorem kdf_3_1 {a : Nat} (h : kd a = 3) : kd (rf a 1) = 2 := by
  have h2 := kd_cases (fun a => (kd a != 3) || (kd (rf a 1) == 2)) (by decide +kernel) (fun a q => by simp [kd_big q]) a
  simp only [h, bne_self_eq_false, Bool.false_or, beq_iff_eq] at h2
  exact h2
theorem kdf_5_0 {a : Nat} (h : kd a = 5) : kd (rf a 0) = 4 := by
  have h2 := kd_cases (fun a => (kd a != 5) || (kd (rf a 0) == 4)) (by decide +kernel) (fun a q => by simp [kd_big q]) a
  simp only [h, bne_self_eq_false, Bool.false_or, beq_iff_eq] at h2
  exact h2
theorem kdf_5_1 {a : Nat} (h : kd a = 5) : kd (rf a 1) = 20 := by
  have h2 := kd_cases (fun a => (kd a != 5) || (kd (rf a 1) == 20)) (by decide +kernel) (fun a q => by simp [kd_big q]) a
  simp only [h, bne_self_eq_false, Bool.false_or, beq_iff_eq] at h2
  exact h2
theorem lnf_5_1 {a : Nat} (h : kd a = 5) : ln (rf a 1) = 6 := by
  have h2 := kd_cases (fun a => (kd a != 5) || (ln (rf a 1) == 6)) (by decide +kernel) (fun a q => by simp [kd_big q]) a
  simp only [h, bne_self_eq_false, Bool.false_or, beq_iff_eq] at h2
  exact h2
theorem kdf_6_0 {a : Nat} (h : kd a = 6) : kd (rf a 0) = 20 := by
  have h2 := kd_cases (fun a => (kd a != 6) || (kd (rf a 0) == 20)) (by decide +kernel) (fun a q => by simp [kd_big q]) a
  simp only [h, bne_self_eq_false, Bool.false_or, beq_iff_eq] at h2
  exact h2
theorem lnf_6_0 {a : Nat} (h : kd a = 6) : ln (rf a 0) = 64 := by
  have h2 := kd_cases (fun a => (kd a != 6) || (ln (rf a 0) == 64)) (by decide +kernel) (fun a q => by simp [kd_big q]) a
  simp only [h, bne_self_eq_false, Bool.false_or, beq_iff_eq] at h2
  exact h2
theorem kdf_6_1 {a : Nat} (h : kd a = 6) : kd (rf a 1) = 20 := by
  have h2 := kd_cases (fun a => (kd a != 6) || (kd (rf a 1) == 20)) (by decide +kernel) (fun a q => by simp [kd_big q]) a
  simp only [h, bne_self_eq_false, Bool.false_or, beq_iff_eq] at h2
  exact h2
theorem lnf_6_1 {a : Nat} (h : kd a = 6) : ln (rf a 1) = 256 := by
  have h2 := kd_cases (fun a => (kd a != 6) || (ln (rf a 1) == 256)) (by decide +kernel) (fun a q => by simp [kd_big q]) a
  simp only [h, bne_self_eq_false, Bool.false_or, beq_iff_eq] at h2
  exact h2
theorem kdf_6_2 {a : Nat} (h : kd a = 6) : kd (rf a 2) = 20 := by
  have h2 := kd_cases (fun a => (kd a != 6) || (kd (rf a 2) == 20)) (by decide +kernel) (fun a q => by simp [kd_big q]) a
  simp only [h, bne_self_eq_false, Bool.false_or, beq_iff_eq] at h2
  exact h2
theorem lnf_6_2 {a : Nat} (h : kd a = 6) : ln (rf a 2) = 256 := by
  have h2 := kd_cases (fun a => (kd a != 6) || (ln (rf a 2) == 256)) (by decide +kernel) (fun a q => by simp [kd_big q]) a
  simp only [h, bne_self_eq_false, Bool.false_or, beq_iff_eq] at h2
  exact h2
theorem kdf_6_3 {a : Nat} (h : kd a = 6) : kd (rf a 3) = 20 := by
  have h2 := kd_cases (fun a => (kd a != 6) || (kd (rf a 3) == 20)) (by decide +kernel) (fun a q => by simp [kd_big q]) a
  simp only [h, bne_self_eq_false, Bool.false_or, beq_iff_eq] at h2
  exact h2
theorem lnf_6_3 {a : Nat} (h : kd a = 6) : ln (rf a 3) = 256 := by
  have h2 := kd_cases (fun a => (kd a != 6) || (ln (rf a 3) == 256)) (by decide +kernel) (fun a q => by simp [kd_big q]) a
  simp only [h, bne_self_eq_false, Bool.false_or, beq_iff_eq] at h2
  exact h2
theorem kdf_7_0 {a : Nat} (h : kd a = 7) : kd (rf a 0) = 20 := by
  have h2 := kd_cases (fun a => (kd a != 7) || (kd (rf a 0) == 20)) (by decide +kernel) (fun a q => by simp [kd_big q]) a
  simp only [h, bne_self_eq_false, Bool.false_or, beq_iff_eq] at h2
  exact h2
theorem lnf_7_0 {a : Nat} (h : kd a = 7) : ln (rf a 0) = 8 := by
  have h2 := kd_cases (fun a => (kd a != 7) || (ln (rf a 0) == 8)) (by decide +kernel) (fun a q => by simp [kd_big q]) a
  simp only [h, bne_self_eq_false, Bool.false_or, beq_iff_eq] at h2
  exact h2
theorem kdf_7_1 {a : Nat} (h : kd a = 7) : kd (rf a 1) = 20 := by
  have h2 := kd_cases (fun a => (kd a != 7) || (kd (rf a 1) == 20)) (by decide +kernel) (fun a q => by simp [kd_big q]) a
  simp only [h, bne_self_eq_false, Bool.false_or, beq_iff_eq] at h2
  exact h2
theorem lnf_7_1 {a : Nat} (h : kd a = 7) : ln (rf a 1) = 8 := by
  have h2 := kd_cases (fun a => (kd a != 7) || (ln (rf a 1) == 8)) (by decide +kernel) (fun a q => by simp [kd_big q]) a
  simp only [h, bne_self_eq_false, Bool.false_or, beq_iff_eq] at h2
  exact h2
theorem kdf_7_2 {a : Nat} (h : kd a = 7) : kd (rf a 2) = 20 := by
  have h2 := kd_cases (fun a => (kd a != 7) || (kd (rf a 2) == 20)) (by decide +kernel) (fun a q => by simp [kd_big q]) a
  simp only [h, bne_self_eq_false, Bool.false_or, beq_iff_eq] at h2
  exact h2
theorem lnf_7_2 {a : Nat} (h : kd a = 7) : ln (rf a 2) = 8 := by
  have h2 := kd_cases (fun a => (kd a != 7) || (ln (rf a 2) == 8)) (by decide +kernel) (fun a q => by simp [kd_big q]) a
  simp only [h, bne_self_eq_false, Bool.false_or, beq_iff_eq] at h2
  exact h2
theorem kdf_7_3 {a : Nat} (h : kd a = 7) : kd (rf a 3) = 20 := by
  have h2 := kd_cases (fun a => (kd a != 7) || (kd (rf a 3) == 20)) (by decide +kernel) (fun a q => by simp [kd_big q]) a
  simp only [h, bne_self_eq_false, Bool.false_or, beq_iff_eq] at h2
  exact h2
theorem lnf_7_3 {a : Nat} (h : kd a = 7) : ln (rf a 3) = 8 := by
  have h2 := kd_cases (fun a => (kd a != 7) || (ln (rf a 3) == 8)) (by decide +kernel) (fun a q => by simp [kd_big q]) a
  simp only [h, bne_self_eq_false, Bool.false_or, beq_iff_eq] at h2
  exact h2
theorem kdf_8_0 {a : Nat} (h : kd a = 8) : kd (rf a 0) = 20 := by
  have h2 := kd_cases (fun a => (kd a != 8) || (kd (rf a 0) == 20)) (by decide +kernel) (fun a q => by simp [kd_big q]) a
  simp only [h, bne_self_eq_false, Bool.false_or, beq_iff_eq] at h2
  exact h2
theorem lnf_8_0 {a : Nat} (h : kd a = 8) : ln (rf a 0) = 6561 := by
  have h2 := kd_cases (fun a => (kd a != 8) || (ln (rf a 0) == 6561)) (by decide +kernel) (fun a q => by simp [kd_big q]) a
  simp only [h, bne_self_eq_false, Bool.false_or, beq_iff_eq] at h2
  exact h2
theorem kdf_8_1 {a : Nat} (h : kd a = 8) : kd (rf a 1) = 20 := by
  have h2 := kd_cases (fun a => (kd a != 8) || (kd (rf a 1) == 20)) (by decide +kernel) (fun a q => by simp [kd_big q]) a
  simp only [h, bne_self_eq_false, Bool.false_or, beq_iff_eq] at h2
  exact h2
theorem lnf_8_1 {a : Nat} (h : kd a = 8) : ln (rf a 1) = 256 := by
  have h2 := kd_cases (fun a => (kd a != 8) || (ln (rf a 1) == 256)) (by decide +kernel) (fun a q => by simp [kd_big q]) a
  simp only [h, bne_self_eq_false, Bool.false_or, beq_iff_eq] at h2
  exact h2
theorem kdf_9_0 {a : Nat} (h : kd a = 9) : kd (rf a 0) = 24 := by
  have h2 := kd_cases (fun a => (kd a != 9) || (kd (rf a 0) == 24)) (by decide +kernel) (fun a q => by simp [kd_big q]) a
  simp only [h, bne_self_eq_false, Bool.false_or, beq_iff_eq] at h2
  exact h2
theorem kdf_9_1 {a : Nat} (h : kd a = 9) : kd (rf a 1) = 20 := by
  have h2 := kd_cases (fun a => (kd a != 9) || (kd (rf a 1) == 20)) (by decide +kernel) (fun a q => by simp [kd_big q]) a
  simp only [h, bne_self_eq_false, Bool.false_or, beq_iff_eq] at h2
  exact h2
theorem kdf_10_0 {a : Nat} (h : kd a = 10) : kd (rf a 0) = 9 := by
  have h2 := kd_cases (fun a => (kd a != 10) || (kd (rf a 0) == 9)) (by decide +kernel) (fun a q => by simp [kd_big q]) a
  simp only [h, bne_self_eq_false, Bool.false_or, beq_iff_eq] at h2
  exact h2
theorem kdf_10_1 {a : Nat} (h : kd a = 10) : kd (rf a 1) = 9 := by
  have h2 := kd_cases (fun a => (kd a != 10) || (kd (rf a 1) == 9)) (by decide +kernel) (fun a q => by simp [kd_big q]) a
  simp only [h, bne_self_eq_false, Bool.false_or, beq_iff_eq] at h2
  exact h2
theorem kdf_10_2 {a : Nat} (h : kd a = 10) : kd (rf a 2) = 7 := by
  have h2 := kd_cases (fun a => (kd a != 10) || (kd (rf a 2) == 7)) (by decide +kernel) (fun a q => by simp [kd_big q]) a
  simp only [h, bne_self_eq_false, Bool.false_or, beq_iff_eq] at h2
  exact h2
theorem kdf_10_3 {a : Nat} (h : kd a = 10) : kd (rf a 3) = 3 := by
  have h2 := kd_cases (fun a => (kd a != 10) || (kd (rf a 3) == 3)) (by decide +kernel) (fun a q => by simp [kd_big q]) a
  simp only [h, bne_self_eq_false, Bool.false_or, beq_iff_eq] at h2
  exact h2
theorem kdf_10_4 {a : Nat} (h : kd a = 10) : kd (rf a 4) = 22 := by
  have h2 := kd_cases (fun a => (kd a != 10) || (kd (rf a 4) == 22)) (by decide +kernel) (fun a q => by simp [kd_big q]) a
  simp only [h, bne_self_eq_false, Bool.false_or, beq_iff_eq] at h2
  exact h2
theorem lnf_10_4 {a : Nat} (h : kd a = 10) : ln (rf a 4) = 3 := by
  have h2 := kd_cases (fun a => (kd a != 10) || (ln (rf a 4) == 3)) (by decide +kernel) (fun a q => by simp [kd_big q]) a
  simp only [h, bne_self_eq_false, Bool.false_or, beq_iff_eq] at h2
  exact h2
theorem kdf_10_5 {a : Nat} (h : kd a = 10) : kd (rf a 5) = 6 := by
  have h2 := kd_cases (fun a => (kd a != 10) || (kd (rf a 5) == 6)) (by decide +kernel) (fun a q => by simp [kd_big q]) a
  simp only [h, bne_self_eq_false, Bool.false_or, beq_iff_eq] at h2
  exact h2
theorem kdf_10_6 {a : Nat} (h : kd a = 10) : kd (rf a 6) = 0 := by
  have h2 := kd_cases (fun a => (kd a != 10) || (kd (rf a 6) == 0)) (by decide +kernel) (fun a q => by simp [kd_big q]) a
  simp only [h, bne_self_eq_false, Bool.false_or, beq_iff_eq] at h2
  exact h2
theorem kdf_10_7 {a : Nat} (h : kd a = 10) : kd (rf a 7) = 5 := by
  have h2 := kd_cases (fun a => (kd a != 10) || (kd (rf a 7) == 5)) (by decide +kernel) (fun a q => by simp [kd_big q]) a
  simp only [h, bne_self_eq_false, Bool.false_or, beq_iff_eq] at h2
  exact h2
theorem kdf_10_8 {a : Nat} (h : kd a = 10) : kd (rf a 8) = 8 := by
  have h2 := kd_cases (fun a => (kd a != 10) || (kd (rf a 8) == 8)) (by decide +kernel) (fun a q => by simp [kd_big q]) a
  simp only [h, bne_self_eq_false, Bool.false_or, beq_iff_eq] at h2
  exact h2
theorem kdf_10_9 {a : Nat} (h : kd a = 10) : kd (rf a 9) = 1 := by
  have h2 := kd_cases (fun a => (kd a != 10) || (kd (rf a 9) == 1)) (by decide +kernel) (fun a q => by simp [kd_big q]) a
  simp only [h, bne_self_eq_false, Bool.false_or, beq_iff_eq] at h2
  exact h2
theorem kdf_10_10 {a : Nat} (h : kd a = 10) : kd (rf a 10) = 20 := by
  have h2 := kd_cases (fun a => (kd a != 10) || (kd (rf a 10) == 20)) (by decide +kernel) (fun a q => by simp [kd_big q]) a
  simp only [h, bne_self_eq_false, Bool.false_or, beq_iff_eq] at h2
  exact h2
theorem lnf_10_10 {a : Nat} (h : kd a = 10) : ln (rf a 10) = 6 := by
  have h2 := kd_cases (fun a => (kd a != 10) || (ln (rf a 10) == 6)) (by decide +kernel) (fun a q => by simp [kd_big q]) a
  simp only [h, bne_self_eq_false, Bool.false_or, beq_iff_eq] at h2
  exact h2
theorem kdf_11_4 {a : Nat} (h : kd a = 11) : kd (rf a 4) = 20 := by
  have h2 := kd_cases (fun a => (kd a != 11) || (kd (rf a 4) == 20)) (by decide +kernel) (fun a q => by simp [kd_big q]) a
  simp only [h, bne_self_eq_false, Bool.false_or, beq_iff_eq] at h2
  exact h2
theorem lnf_11_4 {a : Nat} (h : kd a = 11) : ln (rf a 4) = 6 := by
  have h2 := kd_cases (fun a => (kd a != 11) || (ln (rf a 4) == 6)) (by decide +kernel) (fun a q => by simp [kd_big q]) a
  simp only [h, bne_self_eq_false, Bool.false_or, beq_iff_eq] at h2
  exact h2
theorem kdf_11_5 {a : Nat} (h : kd a = 11) : kd (rf a 5) = 20 := by
  have h2 := kd_cases (fun a => (kd a != 11) || (kd (rf a 5) == 20)) (by decide +kernel) (fun a q => by simp [kd_big q]) a
  simp only [h, bne_self_eq_false, Bool.false_or, beq_iff_eq] at h2
  exact h2
theorem lnf_11_5 {a : Nat} (h : kd a = 11) : ln (rf a 5) = 240 := by
  have h2 := kd_cases (fun a => (kd a != 11) || (ln (rf a 5) == 240)) (by decide +kernel) (fun a q => by simp [kd_big q]) a
  simp only [h, bne_self_eq_false, Bool.false_or, beq_iff_eq] at h2
  exact h2
theorem kdf_11_6 {a : Nat} (h : kd a = 11) : kd (rf a 6) = 20 := by
  have h2 := kd_cases (fun a => (kd a != 11) || (kd (rf a 6) == 20)) (by decide +kernel) (fun a q => by simp [kd_big q]) a
  simp only [h, bne_self_eq_false, Bool.false_or, beq_iff_eq] at h2
  exact h2
theorem lnf_11_6 {a : Nat} (h : kd a = 11) : ln (rf a 6) = 6 := by
  have h2 := kd_cases (fun a => (kd a != 11) || (ln (rf a 6) == 6)) (by decide +kernel) (fun a q => by simp [kd_big q]) a
  simp only [h, bne_self_eq_false, Bool.false_or, beq_iff_eq] at h2
  exact h2
theorem kdf_11_7 {a : Nat} (h : kd a = 11) : kd (rf a 7) = 21 := by
  have h2 := kd_cases (fun a => (kd a != 11) || (kd (rf a 7) == 21)) (by decide +kernel) (fun a q => by simp [kd_big q]) a
  simp only [h, bne_self_eq_false, Bool.false_or, beq_iff_eq] at h2
  exact h2
theorem lnf_11_7 {a : Nat} (h : kd a = 11) : ln (rf a 7) = 240 := by
  have h2 := kd_cases (fun a => (kd a != 11) || (ln (rf a 7) == 240)) (by decide +kernel) (fun a q => by simp [kd_big q]) a
  simp only [h, bne_self_eq_false, Bool.false_or, beq_iff_eq] at h2
  exact h2
theorem kdf_11_8 {a : Nat} (h : kd a = 11) : kd (rf a 8) = 20 := by
  have h2 := kd_cases (fun a => (kd a != 11) || (kd (rf a 8) == 20)) (by decide +kernel) (fun a q => by simp [kd_big q]) a
  simp only [h, bne_self_eq_false, Bool.false_or, beq_iff_eq] at h2
  exact h2
theorem lnf_11_8 {a : Nat} (h : kd a = 11) : ln (rf a 8) = 4 := by
  have h2 := kd_cases (fun a => (kd a != 11) || (ln (rf a 8) == 4)) (by decide +kernel) (fun a q => by simp [kd_big q]) a
  simp only [h, bne_self_eq_false, Bool.false_or, beq_iff_eq] at h2
  exact h2
theorem kdf_11_9 {a : Nat} (h : kd a = 11) : kd (rf a 9) = 20 := by
  have h2 := kd_cases (fun a => (kd a != 11) || (kd (rf a 9) == 20)) (by decide +kernel) (fun a q => by simp [kd_big q]) a
  simp only [h, bne_self_eq_false, Bool.false_or, beq_iff_eq] at h2
  exact h2
theorem lnf_11_9 {a : Nat} (h : kd a = 11) : ln (rf a 9) = 40 := by
  have h2 := kd_cases (fun a => (kd a != 11) || (ln (rf a 9) == 40)) (by decide +kernel) (fun a q => by simp [kd_big q]) a
  simp only [h, bne_self_eq_false, Bool.false_or, beq_iff_eq] at h2
  exact h2
theorem kdf_11_12 {a : Nat} (h : kd a = 11) : kd (rf a 12) = 20 := by
  have h2 := kd_cases (fun a => (kd a != 11) || (kd (rf a 12) == 20)) (by decide +kernel) (fun a q => by simp [kd_big q]) a
  simp only [h, bne_self_eq_false, Bool.false_or, beq_iff_eq] at h2
  exact h2
theorem lnf_11_12 {a : Nat} (h : kd a = 11) : ln (rf a 12) = 8 := by
  have h2 := kd_cases (fun a => (kd a != 11) || (ln (rf a 12) == 8)) (by decide +kernel) (fun a q => by simp [kd_big q]) a
  simp only [h, bne_self_eq_false, Bool.false_or, beq_iff_eq] at h2
  exact h2
theorem kdf_11_13 {a : Nat} (h : kd a = 11) : kd (rf a 13) = 20 := by
  have h2 := kd_cases (fun a => (kd a != 11) || (kd (rf a 13) == 20)) (by decide +kernel) (fun a q => by simp [kd_big q]) a
  simp only [h, bne_self_eq_false, Bool.false_or, beq_iff_eq] at h2
  exact h2
theorem lnf_11_13 {a : Nat} (h : kd a = 11) : ln (rf a 13) = 8 := by
  have h2 := kd_cases (fun a => (kd a != 11) || (ln (rf a 13) == 8)) (by decide +kernel) (fun a q => by simp [kd_big q]) a
  simp only [h, bne_self_eq_false, Bool.false_or, beq_iff_eq] at h2
  exact h2
theorem kdf_11_14 {a : Nat} (h : kd a = 11) : kd (rf a 14) = 20 := by
  have h2 := kd_cases (fun a => (kd a != 11) || (kd (rf a 14) == 20)) (by decide +kernel) (fun a q => by simp [kd_big q]) a
  simp only [h, bne_self_eq_false, Bool.false_or, beq_iff_eq] at h2
  exact h2
theorem lnf_11_14 {a : Nat} (h : kd a = 11) : ln (rf a 14) = 8 := by
  have h2 := kd_cases (fun a => (kd a != 11) || (ln (rf a 14) == 8)) (by decide +kernel) (fun a q => by simp [kd_big q]) a
  simp only [h, bne_self_eq_false, Bool.false_or, beq_iff_eq] at h2
  exact h2
theorem kdf_11_15 {a : Nat} (h : kd a = 11) : kd (rf a 15) = 20 := by
  have h2 := kd_cases (fun a => (kd a != 11) || (kd (rf a 15) == 20)) (by decide +kernel) (fun a q => by simp [kd_big q]) a
  simp only [h, bne_self_eq_false, Bool.false_or, beq_iff_eq] at h2
  exact h2
theorem lnf_11_15 {a : Nat} (h : kd a = 11) : ln (rf a 15) = 8 := by
  have h2 := kd_cases (fun a => (kd a != 11) || (ln (rf a 15) == 8)) (by decide +kernel) (fun a q => by simp [kd_big q]) a
  simp only [h, bne_self_eq_false, Bool.false_or, beq_iff_eq] at h2
  exact h2
theorem kdf_11_21 {a : Nat} (h : kd a = 11) : kd (rf a 21) = 20 := by
  have h2 := kd_cases (fun a => (kd a != 11) || (kd (rf a 21) == 20)) (by decide +kernel) (fun a q => by simp [kd_big q]) a
  simp only [h, bne_self_eq_false, Bool.false_or, beq_iff_eq] at h2
  exact h2
theorem lnf_11_21 {a : Nat} (h : kd a = 11) : ln (rf a 21) = 8 := by
  have h2 := kd_cases (fun a => (kd a != 11) || (ln (rf a 21) == 8)) (by decide +kernel) (fun a q => by simp [kd_big q]) a
  simp only [h, bne_self_eq_false, Bool.false_or, beq_iff_eq] at h2
  exact h2
theorem kdf_11_22 {a : Nat} (h : kd a = 11) : kd (rf a 22) = 20 := by
  have h2 := kd_cases (fun a => (kd a != 11) || (kd (rf a 22) == 20)) (by decide +kernel) (fun a q => by simp [kd_big q]) a
  simp only [h, bne_self_eq_false, Bool.false_or, beq_iff_eq] at h2
  exact h2
theorem lnf_11_22 {a : Nat} (h : kd a = 11) : ln (rf a 22) = 8 := by
  have h2 := kd_cases (fun a => (kd a != 11) || (ln (rf a 22) == 8)) (by decide +kernel) (fun a q => by simp [kd_big q]) a
  simp only [h, bne_self_eq_false, Bool.false_or, beq_iff_eq] at h2
  exact h2
theorem kdf_11_23 {a : Nat} (h : kd a = 11) : kd (rf a 23) = 20 := by
  have h2 := kd_cases (fun a => (kd a != 11) || (kd (rf a 23) == 20)) (by decide +kernel) (fun a q => by simp [kd_big q]) a
  simp only [h, bne_self_eq_false, Bool.false_or, beq_iff_eq] at h2
  exact h2
theorem lnf_11_23 {a : Nat} (h : kd a = 11) : ln (rf a 23) = 8 := by
  have h2 := kd_cases (fun a => (kd a != 11) || (ln (rf a 23) == 8)) (by decide +kernel) (fun a q => by simp [kd_big q]) a
  simp only [h, bne_self_eq_false, Bool.false_or, beq_iff_eq] at h2
  exact h2
theorem kdf_11_24 {a : Nat} (h : kd a = 11) : kd (rf a 24) = 20 := by
  have h2 := kd_cases (fun a => (kd a != 11) || (kd (rf a 24) == 20)) (by decide +kernel) (fun a q => by simp [kd_big q]) a
  simp only [h, bne_self_eq_false, Bool.false_or, beq_iff_eq] at h2
  exact h2
theorem lnf_11_24 {a : Nat} (h : kd a = 11) : ln (rf a 24) = 8 := by
  have h2 := kd_cases (fun a => (kd a != 11) || (ln (rf a 24) == 8)) (by decide +kernel) (fun a q => by simp [kd_big q]) a
  simp only [h, bne_self_eq_false, Bool.false_or, beq_iff_eq] at h2
  exact h2
theorem kdf_11_25 {a : Nat} (h : kd a = 11) : kd (rf a 25) = 20 := by
  have h2 := kd_cases (fun a => (kd a != 11) || (kd (rf a 25) == 20)) (by decide +kernel) (fun a q => by simp [kd_big q]) a
  simp only [h, bne_self_eq_false, Bool.false_or, beq_iff_eq] at h2
  exact h2
theorem lnf_11_25 {a : Nat} (h : kd a = 11) : ln (rf a 25) = 8 := by
  have h2 := kd_cases (fun a => (kd a != 11) || (ln (rf a 25) == 8)) (by decide +kernel) (fun a q => by simp [kd_big q]) a
  simp only [h, bne_self_eq_false, Bool.false_or, beq_iff_eq] at h2
  exact h2
theorem kdf_11_26 {a : Nat} (h : kd a = 11) : kd (rf a 26) = 20 := by
  have h2 := kd_cases (fun a => (kd a != 11) || (kd (rf a 26) == 20)) (by decide +kernel) (fun a q => by simp [kd_big q]) a
  simp only [h, bne_self_eq_false, Bool.false_or, beq_iff_eq] at h2
  exact h2
theorem lnf_11_26 {a : Nat} (h : kd a = 11) : ln (rf a 26) = 8 := by
  have h2 := kd_cases (fun a => (kd a != 11) || (ln (rf a 26) == 8)) (by decide +kernel) (fun a q => by simp [kd_big q]) a
  simp only [h, bne_self_eq_false, Bool.false_or, beq_iff_eq] at h2
  exact h2
theorem kdf_11_28 {a : Nat} (h : kd a = 11) : kd (rf a 28) = 20 := by
  have h2 := kd_cases (fun a => (kd a != 11) || (kd (rf a 28) == 20)) (by decide +kernel) (fun a q => by simp [kd_big q]) a
  simp only [h, bne_self_eq_false, Bool.false_or, beq_iff_eq] at h2
  exact h2
theorem lnf_11_28 {a : Nat} (h : kd a = 11) : ln (rf a 28) = 120 := by
  have h2 := kd_cases (fun a => (kd a != 11) || (ln (rf a 28) == 120)) (by decide +kernel) (fun a q => by simp [kd_big q]) a
  simp only [h, bne_self_eq_false, Bool.false_or, beq_iff_eq] at h2
  exact h2
theorem kdf_11_29 {a : Nat} (h : kd a = 11) : kd (rf a 29) = 20 := by
  have h2 := kd_cases (fun a => (kd a != 11) || (kd (rf a 29) == 20)) (by decide +kernel) (fun a q => by simp [kd_big q]) a
  simp only [h, bne_self_eq_false, Bool.false_or, beq_iff_eq] at h2
  exact h2
theorem lnf_11_29 {a : Nat} (h : kd a = 11) : ln (rf a 29) = 3 := by
  have h2 := kd_cases (fun a => (kd a != 11) || (ln (rf a 29) == 3)) (by decide +kernel) (fun a q => by simp [kd_big q]) a
  simp only [h, bne_self_eq_false, Bool.false_or, beq_iff_eq] at h2
  exact h2
theorem kdf_11_30 {a : Nat} (h : kd a = 11) : kd (rf a 30) = 20 := by
  have h2 := kd_cases (fun a => (kd a != 11) || (kd (rf a 30) == 20)) (by decide +kernel) (fun a q => by simp [kd_big q]) a
  simp only [h, bne_self_eq_false, Bool.false_or, beq_iff_eq] at h2
  exact h2
theorem lnf_11_30 {a : Nat} (h : kd a = 11) : ln (rf a 30) = 360 := by
  have h2 := kd_cases (fun a => (kd a != 11) || (ln (rf a 30) == 360)) (by decide +kernel) (fun a q => by simp [kd_big q]) a
  simp only [h, bne_self_eq_false, Bool.false_or, beq_iff_eq] at h2
  exact h2
theorem kdf_11_31 {a : Nat} (h : kd a = 11) : kd (rf a 31) = 20 := by
  have h2 := kd_cases (fun a => (kd a != 11) || (kd (rf a 31) == 20)) (by decide +kernel) (fun a q => by simp [kd_big q]) a
  simp only [h, bne_self_eq_false, Bool.false_or, beq_iff_eq] at h2
  exact h2
theorem lnf_11_31 {a : Nat} (h : kd a = 11) : ln (rf a 31) = 256 := by
  have h2 := kd_cases (fun a => (kd a != 11) || (ln (rf a 31) == 256)) (by decide +kernel) (fun a q => by simp [kd_big q]) a
  simp only [h, bne_self_eq_false, Bool.false_or, beq_iff_eq] at h2
  exact h2
theorem kdf_11_32 {a : Nat} (h : kd a = 11) : kd (rf a 32) = 20 := by
  have h2 := kd_cases (fun a => (kd a != 11) || (kd (rf a 32) == 20)) (by decide +kernel) (fun a q => by simp [kd_big q]) a
  simp only [h, bne_self_eq_false, Bool.false_or, beq_iff_eq] at h2
  exact h2
theorem lnf_11_32 {a : Nat} (h : kd a = 11) : ln (rf a 32) = 256 := by
  have h2 := kd_cases (fun a => (kd a != 11) || (ln (rf a 32) == 256)) (by decide +kernel) (fun a q => by simp [kd_big q]) a
  simp only [h, bne_self_eq_false, Bool.false_or, beq_iff_eq] at h2
  exact h2
theorem kdf_11_33 {a : Nat} (h : kd a = 11) : kd (rf a 33) = 20 := by
  have h2 := kd_cases (fun a => (kd a != 11) || (kd (rf a 33) == 20)) (by decide +kernel) (fun a q => by simp [kd_big q]) a
  simp only [h, bne_self_eq_false, Bool.false_or, beq_iff_eq] at h2
  exact h2
theorem lnf_11_33 {a : Nat} (h : kd a = 11) : ln (rf a 33) = 28 := by
  have h2 := kd_cases (fun a => (kd a != 11) || (ln (rf a 33) == 28)) (by decide +kernel) (fun a q => by simp [kd_big q]) a
  simp only [h, bne_self_eq_false, Bool.false_or, beq_iff_eq] at h2
  exact h2
theorem kdf_11_35 {a : Nat} (h : kd a = 11) : kd (rf a 35) = 20 := by
  have h2 := kd_cases (fun a => (kd a != 11) || (kd (rf a 35) == 20)) (by decide +kernel) (fun a q => by simp [kd_big q]) a
  simp only [h, bne_self_eq_false, Bool.false_or, beq_iff_eq] at h2
  exact h2
theorem lnf_11_35 {a : Nat} (h : kd a = 11) : ln (rf a 35) = 6561 := by
  have h2 := kd_cases (fun a => (kd a != 11) || (ln (rf a 35) == 6561)) (by decide +kernel) (fun a q => by simp [kd_big q]) a
  simp only [h, bne_self_eq_false, Bool.false_or, beq_iff_eq] at h2
  exact h2
theorem kda_22 {a i : Nat} (h : kd a = 22) (hi : i < ln a) : kd (rf a i) = 2 := by
  have h2 := kd_cases (fun a => (kd a != 22) || (List.range (ln a)).all (fun i => kd (rf a i) == 2)) (by decide +kernel) (fun a q => by simp [kd_big q]) a
  simp only [h, bne_self_eq_false, Bool.false_or] at h2
  exact beq_iff_eq.mp (List.all_eq_true.mp h2 i (List.mem_range.mpr hi))
theorem kda_23 {a i : Nat} (h : kd a = 23) (hi : i < ln a) : kd (rf a i) = 4 := by
  have h2 := kd_cases (fun a => (kd a != 23) || (List.range (ln a)).all (fun i => kd (rf a i) == 4)) (by decide +kernel) (fun a q => by simp [kd_big q]) a
  simp only [h, bne_self_eq_false, Bool.false_or] at h2
  exact beq_iff_eq.mp (List.all_eq_true.mp h2 i (List.mem_range.mpr hi))
theorem kda_24 {a i : Nat} (h : kd a = 24) (hi : i < ln a) : kd (rf a i) = 20 := by
  have h2 := kd_cases (fun a => (kd a != 24) || (List.range (ln a)).all (fun i => kd (rf a i) == 20)) (by decide +kernel) (fun a q => by simp [kd_big q]) a
  simp only [h, bne_self_eq_false, Bool.false_or] at h2
  exact beq_iff_eq.mp (List.all_eq_true.mp h2 i (List.mem_range.mpr hi))
section TOP
variable {G : Glob} {d : Nat} {Y : MY} {pc : Nat} {ls : LL} {st : List Value} {M : Mem} {Q : Option Value → Mem → Prop}
theorem wp_topI {x : Int32} (K : ∀ y : Int32, y = x → Wp G d Y pc ls (.int y :: st) M Q) : Wp G d Y pc ls (.int x :: st) M Q := K x rfl
theorem wp_topJ {x : Int64} (K : ∀ y : Int64, y = x → Wp G d Y pc ls (.long y :: st) M Q) : Wp G d Y pc ls (.long x :: st) M Q := K x rfl
theorem wp_topM (K : ∀ M1 : Mem, M1 = M → Wp G d Y pc ls st M1 Q) : Wp G d Y pc ls st M Q := K M rfl
theorem wp_ldcw {i : Nat} {v : Int32} (hc : Cond.constant Y.1.cls i v ∈ gtbl) (hd : decode Y.2.1 pc = .ok (.ldc_w i, 3)) (K : Wp G d Y (pc + 3) ls (.int v :: st) M Q) : Wp G d Y pc ls st M Q := fun p e s m args below meth c X hr9 hk9 => fr_1 (fun _ _ _ _ k => lv_ldcw X.1 X.2.1 X.2.2.2.1 (X.2.2.2.2.1 _ hc) hd k) (K p e s m args below meth c X hr9 hk9)
end TOP
theorem mw_max : Cond.static Lib.Math.max.name ∈ gtbl ∧ Cond.initialized "java/lang/Math" ∈ gtbl ∧ Cond.code Lib.Math.max.name Lib.Math.max.code 2 (some .int) ∈ gtbl := ⟨m_1_31, m_1_3, m_1_32⟩
theorem mw_min : Cond.static Lib.Math.min.name ∈ gtbl ∧ Cond.initialized "java/lang/Math" ∈ gtbl ∧ Cond.code Lib.Math.min.name Lib.Math.min.code 2 (some .int) ∈ gtbl := ⟨m_3_206, m_1_3, m_3_207⟩
theorem mw_abs : Cond.static Lib.Math.abs.name ∈ gtbl ∧ Cond.initialized "java/lang/Math" ∈ gtbl ∧ Cond.code Lib.Math.abs.name Lib.Math.abs.code 1 (some .int) ∈ gtbl := ⟨m_3_44, m_1_3, m_3_45⟩
theorem mw_acopy : Cond.native arraycopyName ∈ gtbl ∧ Cond.static arraycopyName ∈ gtbl ∧ Cond.initialized "java/lang/System" ∈ gtbl := ⟨m_2_152, m_2_151, m_1_14⟩
def Y_X10_row : MY := (yX10_row, cX10_row, 3, some .int)
theorem cm_X10_row : CMV Y_X10_row 2 10 := ⟨⟨m_2_74, m_1_1, ⟨by decide +kernel, by decide +kernel, by decide +kernel⟩, by decide⟩, m_2_72, m_2_73, ⟨_, _, rfl⟩, by decide⟩
def Y_X10_lay : MY := (yX10_lay, cX10_lay, 6, some .int)
theorem cm_X10_lay : CMV Y_X10_lay 3 10 := ⟨⟨m_2_91, m_1_1, ⟨by decide +kernel, by decide +kernel, by decide +kernel⟩, by decide⟩, m_2_89, m_2_90, ⟨_, _, rfl⟩, by decide⟩
def Y_X10_at : MY := (yX10_at, cX10_at, 4, some .int)
theorem cm_X10_at : CMV Y_X10_at 2 10 := ⟨⟨m_2_128, m_1_1, ⟨by decide +kernel, by decide +kernel, by decide +kernel⟩, by decide⟩, m_2_126, m_2_127, ⟨_, _, rfl⟩, by decide⟩
def Y_X10_tear : MY := (yX10_tear, cX10_tear, 3, some .int)
theorem cm_X10_tear : CMV Y_X10_tear 1 10 := ⟨⟨m_2_132, m_1_1, ⟨by decide +kernel, by decide +kernel, by decide +kernel⟩, by decide⟩, m_2_130, m_2_131, ⟨_, _, rfl⟩, by decide⟩
def Y_X10_copy : MY := (yX10_copy, cX10_copy, 6, some .int)
theorem cm_X10_copy : CMV Y_X10_copy 5 10 := ⟨⟨m_2_140, m_1_1, ⟨by decide +kernel, by decide +kernel, by decide +kernel⟩, by decide⟩, m_2_138, m_2_139, ⟨_, _, rfl⟩, by decide⟩
def Y_X10_mean : MY := (yX10_mean, cX10_mean, 4, some .int)
theorem cm_X10_mean : CMV Y_X10_mean 1 10 := ⟨⟨m_2_156, m_1_1, ⟨by decide +kernel, by decide +kernel, by decide +kernel⟩, by decide⟩, m_2_154, m_2_155, ⟨_, _, rfl⟩, by decide⟩
def Y_X10_text : MY := (yX10_text, cX10_text, 3, some .int)
theorem cm_X10_text : CMV Y_X10_text 2 10 := ⟨⟨m_2_166, m_1_1, ⟨by decide +kernel, by decide +kernel, by decide +kernel⟩, by decide⟩, m_2_164, m_2_165, ⟨_, _, rfl⟩, by decide⟩
def Y_X10_put : MY := (yX10_put, cX10_put, 6, some .int)
theorem cm_X10_put : CMV Y_X10_put 3 10 := ⟨⟨m_2_170, m_1_1, ⟨by decide +kernel, by decide +kernel, by decide +kernel⟩, by decide⟩, m_2_168, m_2_169, ⟨_, _, rfl⟩, by decide⟩
def Y_X10_fault : MY := (yX10_fault, cX10_fault, 3, some .int)
theorem cm_X10_fault : CMV Y_X10_fault 1 10 := ⟨⟨m_2_178, m_1_1, ⟨by decide +kernel, by decide +kernel, by decide +kernel⟩, by decide⟩, m_2_176, m_2_177, ⟨_, _, rfl⟩, by decide⟩
def Y_X10_drawer : MY := (yX10_drawer, cX10_drawer, 4, some .int)
theorem cm_X10_drawer : CMV Y_X10_drawer 1 10 := ⟨⟨m_2_202, m_1_1, ⟨by decide +kernel, by decide +kernel, by decide +kernel⟩, by decide⟩, m_2_200, m_2_201, ⟨_, _, rfl⟩, by decide⟩
def Y_X10_glove : MY := (yX10_glove, cX10_glove, 3, some .int)
theorem cm_X10_glove : CMV Y_X10_glove 2 10 := ⟨⟨m_2_222, m_1_1, ⟨by decide +kernel, by decide +kernel, by decide +kernel⟩, by decide⟩, m_2_220, m_2_221, ⟨_, _, rfl⟩, by decide⟩
def Y_X10_mark : MY := (yX10_mark, cX10_mark, 3, some .int)
theorem cm_X10_mark : CMV Y_X10_mark 2 10 := ⟨⟨m_3_0, m_1_1, ⟨by decide +kernel, by decide +kernel, by decide +kernel⟩, by decide⟩, m_2_238, m_2_239, ⟨_, _, rfl⟩, by decide⟩
def Y_X10_pair : MY := (yX10_pair, cX10_pair, 3, some .int)
theorem cm_X10_pair : CMV Y_X10_pair 2 10 := ⟨⟨m_3_49, m_1_1, ⟨by decide +kernel, by decide +kernel, by decide +kernel⟩, by decide⟩, m_3_47, m_3_48, ⟨_, _, rfl⟩, by decide⟩
def Y_X10_wear : MY := (yX10_wear, cX10_wear, 4, some .int)
theorem cm_X10_wear : CMV Y_X10_wear 2 10 := ⟨⟨m_3_54, m_1_1, ⟨by decide +kernel, by decide +kernel, by decide +kernel⟩, by decide⟩, m_3_52, m_3_53, ⟨_, _, rfl⟩, by decide⟩
def Y_X10_lose : MY := (yX10_lose, cX10_lose, 2, some .int)
theorem cm_X10_lose : CMV Y_X10_lose 1 10 := ⟨⟨m_3_71, m_1_1, ⟨by decide +kernel, by decide +kernel, by decide +kernel⟩, by decide⟩, m_3_69, m_3_70, ⟨_, _, rfl⟩, by decide⟩
def Y_X10_back : MY := (yX10_back, cX10_back, 2, some .int)
theorem cm_X10_back : CMV Y_X10_back 1 10 := ⟨⟨m_3_93, m_1_1, ⟨by decide +kernel, by decide +kernel, by decide +kernel⟩, by decide⟩, m_3_91, m_3_92, ⟨_, _, rfl⟩, by decide⟩
def Y_X10_out : MY := (yX10_out, cX10_out, 2, some .int)
theorem cm_X10_out : CMV Y_X10_out 1 10 := ⟨⟨m_3_102, m_1_1, ⟨by decide +kernel, by decide +kernel, by decide +kernel⟩, by decide⟩, m_3_100, m_3_101, ⟨_, _, rfl⟩, by decide⟩
def Y_X10_undo : MY := (yX10_undo, cX10_undo, 3, some .int)
theorem cm_X10_undo : CMV Y_X10_undo 1 10 := ⟨⟨m_3_106, m_1_1, ⟨by decide +kernel, by decide +kernel, by decide +kernel⟩, by decide⟩, m_3_104, m_3_105, ⟨_, _, rfl⟩, by decide⟩
def Y_X10_keep : MY := (yX10_keep, cX10_keep, 2, some .int)
theorem cm_X10_keep : CMV Y_X10_keep 1 10 := ⟨⟨m_3_111, m_1_1, ⟨by decide +kernel, by decide +kernel, by decide +kernel⟩, by decide⟩, m_3_109, m_3_110, ⟨_, _, rfl⟩, by decide⟩
def Y_X10_on : MY := (yX10_on, cX10_on, 2, some .int)
theorem cm_X10_on : CMV Y_X10_on 1 10 := ⟨⟨m_3_119, m_1_1, ⟨by decide +kernel, by decide +kernel, by decide +kernel⟩, by decide⟩, m_3_117, m_3_118, ⟨_, _, rfl⟩, by decide⟩
def Y_X10_good : MY := (yX10_good, cX10_good, 2, some .int)
theorem cm_X10_good : CMV Y_X10_good 1 10 := ⟨⟨m_3_123, m_1_1, ⟨by decide +kernel, by decide +kernel, by decide +kernel⟩, by decide⟩, m_3_121, m_3_122, ⟨_, _, rfl⟩, by decide⟩
def Y_X10_pairs : MY := (yX10_pairs, cX10_pairs, 2, some .int)
theorem cm_X10_pairs : CMV Y_X10_pairs 1 10 := ⟨⟨m_3_141, m_1_1, ⟨by decide +kernel, by decide +kernel, by decide +kernel⟩, by decide⟩, m_3_139, m_3_140, ⟨_, _, rfl⟩, by decide⟩
def Y_X10_missed : MY := (yX10_missed, cX10_missed, 1, some .int)
theorem cm_X10_missed : CMV Y_X10_missed 0 10 := ⟨⟨m_3_157, m_1_1, ⟨by decide +kernel, by decide +kernel, by decide +kernel⟩, by decide⟩, m_3_155, m_3_156, ⟨_, _, rfl⟩, by decide⟩
def Y_X10_wished : MY := (yX10_wished, cX10_wished, 1, some .int)
theorem cm_X10_wished : CMV Y_X10_wished 0 10 := ⟨⟨m_3_166, m_1_1, ⟨by decide +kernel, by decide +kernel, by decide +kernel⟩, by decide⟩, m_3_164, m_3_165, ⟨_, _, rfl⟩, by decide⟩
def Y_X10_days : MY := (yX10_days, cX10_days, 3, some .int)
theorem cm_X10_days : CMV Y_X10_days 2 10 := ⟨⟨m_3_170, m_1_1, ⟨by decide +kernel, by decide +kernel, by decide +kernel⟩, by decide⟩, m_3_168, m_3_169, ⟨_, _, rfl⟩, by decide⟩
def Y_X10_room : MY := (yX10_room, cX10_room, 2, some .int)
theorem cm_X10_room : CMV Y_X10_room 0 10 := ⟨⟨m_3_191, m_1_1, ⟨by decide +kernel, by decide +kernel, by decide +kernel⟩, by decide⟩, m_3_189, m_3_190, ⟨_, _, rfl⟩, by decide⟩
def Y_X10_join : MY := (yX10_join, cX10_join, 3, some .int)
theorem cm_X10_join : CMV Y_X10_join 2 10 := ⟨⟨m_3_212, m_1_1, ⟨by decide +kernel, by decide +kernel, by decide +kernel⟩, by decide⟩, m_3_210, m_3_211, ⟨_, _, rfl⟩, by decide⟩
def Y_X10_sorts : MY := (yX10_sorts, cX10_sorts, 4, some .int)
theorem cm_X10_sorts : CMV Y_X10_sorts 2 10 := ⟨⟨m_3_216, m_1_1, ⟨by decide +kernel, by decide +kernel, by decide +kernel⟩, by decide⟩, m_3_214, m_3_215, ⟨_, _, rfl⟩, by decide⟩
def Y_X10_hands : MY := (yX10_hands, cX10_hands, 4, some .int)
theorem cm_X10_hands : CMV Y_X10_hands 2 10 := ⟨⟨m_3_239, m_1_1, ⟨by decide +kernel, by decide +kernel, by decide +kernel⟩, by decide⟩, m_3_237, m_3_238, ⟨_, _, rfl⟩, by decide⟩
def Y_X10_kinds : MY := (yX10_kinds, cX10_kinds, 4, some .int)
theorem cm_X10_kinds : CMV Y_X10_kinds 2 10 := ⟨⟨m_4_7, m_1_1, ⟨by decide +kernel, by decide +kernel, by decide +kernel⟩, by decide⟩, m_4_5, m_4_6, ⟨_, _, rfl⟩, by decide⟩
def Y_X10_test : MY := (yX10_test, cX10_test, 6, some .int)
theorem cm_X10_test : CMV Y_X10_test 2 10 := ⟨⟨m_4_15, m_1_1, ⟨by decide +kernel, by decide +kernel, by decide +kernel⟩, by decide⟩, m_4_13, m_4_14, ⟨_, _, rfl⟩, by decide⟩
def Y_X10_duel : MY := (yX10_duel, cX10_duel, 2, some .int)
theorem cm_X10_duel : CMV Y_X10_duel 1 10 := ⟨⟨m_4_33, m_1_1, ⟨by decide +kernel, by decide +kernel, by decide +kernel⟩, by decide⟩, m_4_31, m_4_32, ⟨_, _, rfl⟩, by decide⟩
def Y_X10_odds : MY := (yX10_odds, cX10_odds, 4, some .int)
theorem cm_X10_odds : CMV Y_X10_odds 3 10 := ⟨⟨m_4_47, m_1_1, ⟨by decide +kernel, by decide +kernel, by decide +kernel⟩, by decide⟩, m_4_45, m_4_46, ⟨_, _, rfl⟩, by decide⟩
def Y_X10_mid : MY := (yX10_mid, cX10_mid, 3, some .int)
theorem cm_X10_mid : CMV Y_X10_mid 2 10 := ⟨⟨m_4_76, m_1_1, ⟨by decide +kernel, by decide +kernel, by decide +kernel⟩, by decide⟩, m_4_74, m_4_75, ⟨_, _, rfl⟩, by decide⟩
def Y_X10_lots : MY := (yX10_lots, cX10_lots, 6, some .int)
theorem cm_X10_lots : CMV Y_X10_lots 2 10 := ⟨⟨m_4_80, m_1_1, ⟨by decide +kernel, by decide +kernel, by decide +kernel⟩, by decide⟩, m_4_78, m_4_79, ⟨_, _, rfl⟩, by decide⟩
def Y_X10_asked : MY := (yX10_asked, cX10_asked, 1, some .int)
theorem cm_X10_asked : CMV Y_X10_asked 0 10 := ⟨⟨m_4_98, m_1_1, ⟨by decide +kernel, by decide +kernel, by decide +kernel⟩, by decide⟩, m_4_96, m_4_97, ⟨_, _, rfl⟩, by decide⟩
def Y_X10_upper : MY := (yX10_upper, cX10_upper, 1, some .long)
theorem cm_X10_upper : CMV Y_X10_upper 0 10 := ⟨⟨m_4_102, m_1_1, ⟨by decide +kernel, by decide +kernel, by decide +kernel⟩, by decide⟩, m_4_100, m_4_101, ⟨_, _, rfl⟩, by decide⟩
def Y_X10_lower : MY := (yX10_lower, cX10_lower, 1, some .long)
theorem cm_X10_lower : CMV Y_X10_lower 0 10 := ⟨⟨m_4_106, m_1_1, ⟨by decide +kernel, by decide +kernel, by decide +kernel⟩, by decide⟩, m_4_104, m_4_105, ⟨_, _, rfl⟩, by decide⟩
def Y_X10_count : MY := (yX10_count, cX10_count, 2, some .int)
theorem cm_X10_count : CMV Y_X10_count 1 10 := ⟨⟨m_4_110, m_1_1, ⟨by decide +kernel, by decide +kernel, by decide +kernel⟩, by decide⟩, m_4_108, m_4_109, ⟨_, _, rfl⟩, by decide⟩
def Y_X10_finding : MY := (yX10_finding, cX10_finding, 1, some .int)
theorem cm_X10_finding : CMV Y_X10_finding 0 10 := ⟨⟨m_4_132, m_1_1, ⟨by decide +kernel, by decide +kernel, by decide +kernel⟩, by decide⟩, m_4_130, m_4_131, ⟨_, _, rfl⟩, by decide⟩
def Y_X10_findings : MY := (yX10_findings, cX10_findings, 2, some .int)
theorem cm_X10_findings : CMV Y_X10_findings 1 10 := ⟨⟨m_4_136, m_1_1, ⟨by decide +kernel, by decide +kernel, by decide +kernel⟩, by decide⟩, m_4_134, m_4_135, ⟨_, _, rfl⟩, by decide⟩
def Y_X10_digest : MY := (yX10_digest, cX10_digest, 5, some .long)
theorem cm_X10_digest : CMV Y_X10_digest 0 10 := ⟨⟨m_4_140, m_1_1, ⟨by decide +kernel, by decide +kernel, by decide +kernel⟩, by decide⟩, m_4_138, m_4_139, ⟨_, _, rfl⟩, by decide⟩
def Y_X10_finds : MY := (yX10_finds, cX10_finds, 2, some .int)
theorem cm_X10_finds : CMV Y_X10_finds 1 10 := ⟨⟨m_2_82, m_1_1, ⟨by decide +kernel, by decide +kernel, by decide +kernel⟩, by decide⟩, m_2_81, ms_0, ⟨_, _, rfl⟩, by decide⟩
def Y_X10_tells : MY := (yX10_tells, cX10_tells, 2, some .int)
theorem cm_X10_tells : CMV Y_X10_tells 1 10 := ⟨⟨m_2_124, m_1_1, ⟨by decide +kernel, by decide +kernel, by decide +kernel⟩, by decide⟩, m_2_123, ms_3, ⟨_, _, rfl⟩, by decide⟩
def Y_X10_refusedRow : MY := (yX10_refusedRow, cX10_refusedRow, 2, some .int)
theorem cm_X10_refusedRow : CMV Y_X10_refusedRow 1 10 := ⟨⟨m_2_99, m_1_1, ⟨by decide +kernel, by decide +kernel, by decide +kernel⟩, by decide⟩, m_2_98, ms_2, ⟨_, _, rfl⟩, by decide⟩
def Y_X10_refusedPlace : MY := (yX10_refusedPlace, cX10_refusedPlace, 4, some .int)
theorem cm_X10_refusedPlace : CMV Y_X10_refusedPlace 2 10 := ⟨⟨m_2_95, m_1_1, ⟨by decide +kernel, by decide +kernel, by decide +kernel⟩, by decide⟩, m_2_94, ms_1, ⟨_, _, rfl⟩, by decide⟩
def Y_X10_refusedText : MY := (yX10_refusedText, cX10_refusedText, 2, some .int)
theorem cm_X10_refusedText : CMV Y_X10_refusedText 1 10 := ⟨⟨m_2_174, m_1_1, ⟨by decide +kernel, by decide +kernel, by decide +kernel⟩, by decide⟩, m_2_173, ms_4, ⟨_, _, rfl⟩, by decide⟩
def Y_X10_refusedGuess : MY := (yX10_refusedGuess, cX10_refusedGuess, 4, some .int)
theorem cm_X10_refusedGuess : CMV Y_X10_refusedGuess 2 10 := ⟨⟨m_3_220, m_1_1, ⟨by decide +kernel, by decide +kernel, by decide +kernel⟩, by decide⟩, m_3_219, ms_13, ⟨_, _, rfl⟩, by decide⟩
def Y_X10_greatestChange : MY := (yX10_greatestChange, cX10_greatestChange, 7, some .int)
theorem cm_X10_greatestChange : CMV Y_X10_greatestChange 1 10 := ⟨⟨m_3_161, m_1_1, ⟨by decide +kernel, by decide +kernel, by decide +kernel⟩, by decide⟩, m_3_160, ms_10, ⟨_, _, rfl⟩, by decide⟩
def Y_X10_howManyKept : MY := (yX10_howManyKept, cX10_howManyKept, 3, some .int)
theorem cm_X10_howManyKept : CMV Y_X10_howManyKept 0 10 := ⟨⟨m_4_128, m_1_1, ⟨by decide +kernel, by decide +kernel, by decide +kernel⟩, by decide⟩, m_4_127, ms_18, ⟨_, _, rfl⟩, by decide⟩
def Y_X10_isChance : MY := (yX10_isChance, cX10_isChance, 1, some .boolean)
theorem cm_X10_isChance : CMS Y_X10_isChance 1 := ⟨⟨m_4_50, m_1_1, ⟨by decide +kernel, by decide +kernel, by decide +kernel⟩, by decide⟩, m_4_49⟩
def Y_X11_in : MY := (yX11_in, cX11_in, 3, some .boolean)
theorem cm_X11_in : CMS Y_X11_in 3 := ⟨⟨m_5_34, m_1_13, ⟨by decide +kernel, by decide +kernel, by decide +kernel⟩, by decide⟩, m_5_33⟩
def Y_X11_refuse : MY := (yX11_refuse, cX11_refuse, 2, some .int)
theorem cm_X11_refuse : CMV Y_X11_refuse 1 11 := ⟨⟨m_5_38, m_1_13, ⟨by decide +kernel, by decide +kernel, by decide +kernel⟩, by decide⟩, m_5_37, ms_19, ⟨_, _, rfl⟩, by decide⟩
def Y_X11_tellsAsked : MY := (yX11_tellsAsked, cX11_tellsAsked, 2, some .int)
theorem cm_X11_tellsAsked : CMV Y_X11_tellsAsked 1 11 := ⟨⟨m_5_50, m_1_13, ⟨by decide +kernel, by decide +kernel, by decide +kernel⟩, by decide⟩, m_5_49, ms_21, ⟨_, _, rfl⟩, by decide⟩
def Y_X11_tellPart : MY := (yX11_tellPart, cX11_tellPart, 11, none)
theorem cm_X11_tellPart : CMV Y_X11_tellPart 2 11 := ⟨⟨m_6_87, m_1_13, ⟨by decide +kernel, by decide +kernel, by decide +kernel⟩, by decide⟩, m_6_86, ms_53, ⟨_, _, rfl⟩, by decide⟩
def Y_X11_isRow : MY := (yX11_isRow, cX11_isRow, 1, some .boolean)
theorem cm_X11_isRow : CMS Y_X11_isRow 1 := ⟨⟨m_5_31, m_1_13, ⟨by decide +kernel, by decide +kernel, by decide +kernel⟩, by decide⟩, m_5_30⟩
def Y_X11_clearRow : MY := (yX11_clearRow, cX11_clearRow, 4, none)
theorem cm_X11_clearRow : CMV Y_X11_clearRow 2 11 := ⟨⟨m_5_42, m_1_13, ⟨by decide +kernel, by decide +kernel, by decide +kernel⟩, by decide⟩, m_5_41, ms_20, ⟨_, _, rfl⟩, by decide⟩
def Y_X11_row : MY := (yX11_row, cX11_row, 3, some .int)
theorem cm_X11_row : CMV Y_X11_row 2 11 := ⟨⟨m_5_28, m_1_13, ⟨by decide +kernel, by decide +kernel, by decide +kernel⟩, by decide⟩, m_5_26, m_5_27, ⟨_, _, rfl⟩, by decide⟩
def Y_X11_lay : MY := (yX11_lay, cX11_lay, 5, some .int)
theorem cm_X11_lay : CMV Y_X11_lay 3 11 := ⟨⟨m_5_46, m_1_13, ⟨by decide +kernel, by decide +kernel, by decide +kernel⟩, by decide⟩, m_5_44, m_5_45, ⟨_, _, rfl⟩, by decide⟩
def Y_X11_at : MY := (yX11_at, cX11_at, 3, some .int)
theorem cm_X11_at : CMV Y_X11_at 2 11 := ⟨⟨m_5_54, m_1_13, ⟨by decide +kernel, by decide +kernel, by decide +kernel⟩, by decide⟩, m_5_52, m_5_53, ⟨_, _, rfl⟩, by decide⟩
def Y_X11_tear : MY := (yX11_tear, cX11_tear, 2, some .int)
theorem cm_X11_tear : CMV Y_X11_tear 1 11 := ⟨⟨m_5_58, m_1_13, ⟨by decide +kernel, by decide +kernel, by decide +kernel⟩, by decide⟩, m_5_56, m_5_57, ⟨_, _, rfl⟩, by decide⟩
def Y_X11_copy : MY := (yX11_copy, cX11_copy, 7, some .int)
theorem cm_X11_copy : CMV Y_X11_copy 5 11 := ⟨⟨m_5_62, m_1_13, ⟨by decide +kernel, by decide +kernel, by decide +kernel⟩, by decide⟩, m_5_60, m_5_61, ⟨_, _, rfl⟩, by decide⟩
def Y_X11_mean : MY := (yX11_mean, cX11_mean, 5, some .int)
theorem cm_X11_mean : CMV Y_X11_mean 1 11 := ⟨⟨m_5_66, m_1_13, ⟨by decide +kernel, by decide +kernel, by decide +kernel⟩, by decide⟩, m_5_64, m_5_65, ⟨_, _, rfl⟩, by decide⟩
def Y_X11_isText : MY := (yX11_isText, cX11_isText, 1, some .boolean)
theorem cm_X11_isText : CMS Y_X11_isText 1 := ⟨⟨m_5_73, m_1_13, ⟨by decide +kernel, by decide +kernel, by decide +kernel⟩, by decide⟩, m_5_72⟩
def Y_X11_text : MY := (yX11_text, cX11_text, 4, some .int)
theorem cm_X11_text : CMV Y_X11_text 2 11 := ⟨⟨m_5_70, m_1_13, ⟨by decide +kernel, by decide +kernel, by decide +kernel⟩, by decide⟩, m_5_68, m_5_69, ⟨_, _, rfl⟩, by decide⟩
def Y_X11_put : MY := (yX11_put, cX11_put, 5, some .int)
theorem cm_X11_put : CMV Y_X11_put 3 11 := ⟨⟨m_5_77, m_1_13, ⟨by decide +kernel, by decide +kernel, by decide +kernel⟩, by decide⟩, m_5_75, m_5_76, ⟨_, _, rfl⟩, by decide⟩
def Y_X11_here : MY := (yX11_here, cX11_here, 1, some .int)
theorem cm_X11_here : CMV Y_X11_here 0 11 := ⟨⟨m_5_93, m_1_13, ⟨by decide +kernel, by decide +kernel, by decide +kernel⟩, by decide⟩, m_5_92, ms_24, ⟨_, _, rfl⟩, by decide⟩
def Y_X11_skip : MY := (yX11_skip, cX11_skip, 1, none)
theorem cm_X11_skip : CMV Y_X11_skip 0 11 := ⟨⟨m_5_89, m_1_13, ⟨by decide +kernel, by decide +kernel, by decide +kernel⟩, by decide⟩, m_5_88, ms_23, ⟨_, _, rfl⟩, by decide⟩
def Y_X11_figure : MY := (yX11_figure, cX11_figure, 4, some .int)
theorem cm_X11_figure : CMV Y_X11_figure 2 11 := ⟨⟨m_5_97, m_1_13, ⟨by decide +kernel, by decide +kernel, by decide +kernel⟩, by decide⟩, m_5_96, ms_25, ⟨_, _, rfl⟩, by decide⟩
def Y_X11_kindBy : MY := (yX11_kindBy, cX11_kindBy, 1, some .int)
theorem cm_X11_kindBy : CMS Y_X11_kindBy 1 := ⟨⟨m_5_104, m_1_13, ⟨by decide +kernel, by decide +kernel, by decide +kernel⟩, by decide⟩, m_5_103⟩
def Y_X11_readGlove : MY := (yX11_readGlove, cX11_readGlove, 2, none)
theorem cm_X11_readGlove : CMV Y_X11_readGlove 0 11 := ⟨⟨m_5_101, m_1_13, ⟨by decide +kernel, by decide +kernel, by decide +kernel⟩, by decide⟩, m_5_100, ms_26, ⟨_, _, rfl⟩, by decide⟩
def Y_X11_read : MY := (yX11_read, cX11_read, 3, none)
theorem cm_X11_read : CMV Y_X11_read 1 11 := ⟨⟨m_5_85, m_1_13, ⟨by decide +kernel, by decide +kernel, by decide +kernel⟩, by decide⟩, m_5_84, ms_22, ⟨_, _, rfl⟩, by decide⟩
def Y_X11_fault : MY := (yX11_fault, cX11_fault, 2, some .int)
theorem cm_X11_fault : CMV Y_X11_fault 1 11 := ⟨⟨m_5_81, m_1_13, ⟨by decide +kernel, by decide +kernel, by decide +kernel⟩, by decide⟩, m_5_79, m_5_80, ⟨_, _, rfl⟩, by decide⟩
def Y_X11_drawer : MY := (yX11_drawer, cX11_drawer, 3, some .int)
theorem cm_X11_drawer : CMV Y_X11_drawer 1 11 := ⟨⟨m_5_108, m_1_13, ⟨by decide +kernel, by decide +kernel, by decide +kernel⟩, by decide⟩, m_5_106, m_5_107, ⟨_, _, rfl⟩, by decide⟩
def Y_X11_isGlove : MY := (yX11_isGlove, cX11_isGlove, 2, some .boolean)
theorem cm_X11_isGlove : CMV Y_X11_isGlove 1 11 := ⟨⟨m_5_124, m_1_13, ⟨by decide +kernel, by decide +kernel, by decide +kernel⟩, by decide⟩, m_5_123, ms_29, ⟨_, _, rfl⟩, by decide⟩
def Y_X11_all : MY := (yX11_all, cX11_all, 1, some .int)
theorem cm_X11_all : CMV Y_X11_all 0 11 := ⟨⟨m_5_209, m_1_13, ⟨by decide +kernel, by decide +kernel, by decide +kernel⟩, by decide⟩, m_5_208, ms_38, ⟨_, _, rfl⟩, by decide⟩
def Y_X11_isOf : MY := (yX11_isOf, cX11_isOf, 2, some .boolean)
theorem cm_X11_isOf : CMS Y_X11_isOf 2 := ⟨⟨m_5_139, m_1_13, ⟨by decide +kernel, by decide +kernel, by decide +kernel⟩, by decide⟩, m_5_138⟩
def Y_X11_warmthAs : MY := (yX11_warmthAs, cX11_warmthAs, 4, some .int)
theorem cm_X11_warmthAs : CMV Y_X11_warmthAs 2 11 := ⟨⟨m_5_132, m_1_13, ⟨by decide +kernel, by decide +kernel, by decide +kernel⟩, by decide⟩, m_5_131, ms_31, ⟨_, _, rfl⟩, by decide⟩
def Y_X11_goesOn : MY := (yX11_goesOn, cX11_goesOn, 2, some .int)
theorem cm_X11_goesOn : CMS Y_X11_goesOn 2 := ⟨⟨m_5_150, m_1_13, ⟨by decide +kernel, by decide +kernel, by decide +kernel⟩, by decide⟩, m_5_149⟩
def Y_X11_pairAs : MY := (yX11_pairAs, cX11_pairAs, 11, some .int)
theorem cm_X11_pairAs : CMV Y_X11_pairAs 5 11 := ⟨⟨m_5_147, m_1_13, ⟨by decide +kernel, by decide +kernel, by decide +kernel⟩, by decide⟩, m_5_146, ms_33, ⟨_, _, rfl⟩, by decide⟩
def Y_X11_pairOf : MY := (yX11_pairOf, cX11_pairOf, 3, some .int)
theorem cm_X11_pairOf : CMV Y_X11_pairOf 2 11 := ⟨⟨m_5_143, m_1_13, ⟨by decide +kernel, by decide +kernel, by decide +kernel⟩, by decide⟩, m_5_142, ms_32, ⟨_, _, rfl⟩, by decide⟩
def Y_X11_setIn : MY := (yX11_setIn, cX11_setIn, 4, some .int)
theorem cm_X11_setIn : CMV Y_X11_setIn 1 11 := ⟨⟨m_5_178, m_1_13, ⟨by decide +kernel, by decide +kernel, by decide +kernel⟩, by decide⟩, m_5_177, ms_37, ⟨_, _, rfl⟩, by decide⟩
def Y_X11_manyOf : MY := (yX11_manyOf, cX11_manyOf, 3, some .int)
theorem cm_X11_manyOf : CMS Y_X11_manyOf 1 := ⟨⟨m_5_181, m_1_13, ⟨by decide +kernel, by decide +kernel, by decide +kernel⟩, by decide⟩, m_5_180⟩
def Y_X11_inDrawer : MY := (yX11_inDrawer, cX11_inDrawer, 1, some .int)
theorem cm_X11_inDrawer : CMV Y_X11_inDrawer 0 11 := ⟨⟨m_5_174, m_1_13, ⟨by decide +kernel, by decide +kernel, by decide +kernel⟩, by decide⟩, m_5_173, ms_36, ⟨_, _, rfl⟩, by decide⟩
def Y_X11_happen : MY := (yX11_happen, cX11_happen, 4, none)
theorem cm_X11_happen : CMV Y_X11_happen 3 11 := ⟨⟨m_5_116, m_1_13, ⟨by decide +kernel, by decide +kernel, by decide +kernel⟩, by decide⟩, m_5_115, ms_28, ⟨_, _, rfl⟩, by decide⟩
def Y_X11_goThrough : MY := (yX11_goThrough, cX11_goThrough, 2, none)
theorem cm_X11_goThrough : CMV Y_X11_goThrough 0 11 := ⟨⟨m_5_112, m_1_13, ⟨by decide +kernel, by decide +kernel, by decide +kernel⟩, by decide⟩, m_5_111, ms_27, ⟨_, _, rfl⟩, by decide⟩
def Y_X11_does : MY := (yX11_does, cX11_does, 4, none)
theorem cm_X11_does : CMV Y_X11_does 3 11 := ⟨⟨m_5_166, m_1_13, ⟨by decide +kernel, by decide +kernel, by decide +kernel⟩, by decide⟩, m_5_165, ms_35, ⟨_, _, rfl⟩, by decide⟩
def Y_X11_ofGlove : MY := (yX11_ofGlove, cX11_ofGlove, 3, some .int)
theorem cm_X11_ofGlove : CMV Y_X11_ofGlove 2 11 := ⟨⟨m_5_128, m_1_13, ⟨by decide +kernel, by decide +kernel, by decide +kernel⟩, by decide⟩, m_5_127, ms_30, ⟨_, _, rfl⟩, by decide⟩
def Y_X11_glove : MY := (yX11_glove, cX11_glove, 3, some .int)
theorem cm_X11_glove : CMV Y_X11_glove 2 11 := ⟨⟨m_5_120, m_1_13, ⟨by decide +kernel, by decide +kernel, by decide +kernel⟩, by decide⟩, m_5_118, m_5_119, ⟨_, _, rfl⟩, by decide⟩
def Y_X11_mark : MY := (yX11_mark, cX11_mark, 6, some .int)
theorem cm_X11_mark : CMV Y_X11_mark 2 11 := ⟨⟨m_5_136, m_1_13, ⟨by decide +kernel, by decide +kernel, by decide +kernel⟩, by decide⟩, m_5_134, m_5_135, ⟨_, _, rfl⟩, by decide⟩
def Y_X11_areTwo : MY := (yX11_areTwo, cX11_areTwo, 3, some .boolean)
theorem cm_X11_areTwo : CMV Y_X11_areTwo 2 11 := ⟨⟨m_5_158, m_1_13, ⟨by decide +kernel, by decide +kernel, by decide +kernel⟩, by decide⟩, m_5_157, ms_34, ⟨_, _, rfl⟩, by decide⟩
def Y_X11_pair : MY := (yX11_pair, cX11_pair, 3, some .int)
theorem cm_X11_pair : CMV Y_X11_pair 2 11 := ⟨⟨m_5_154, m_1_13, ⟨by decide +kernel, by decide +kernel, by decide +kernel⟩, by decide⟩, m_5_152, m_5_153, ⟨_, _, rfl⟩, by decide⟩
def Y_X11_wear : MY := (yX11_wear, cX11_wear, 4, some .int)
theorem cm_X11_wear : CMV Y_X11_wear 2 11 := ⟨⟨m_5_162, m_1_13, ⟨by decide +kernel, by decide +kernel, by decide +kernel⟩, by decide⟩, m_5_160, m_5_161, ⟨_, _, rfl⟩, by decide⟩
def Y_X11_lose : MY := (yX11_lose, cX11_lose, 2, some .int)
theorem cm_X11_lose : CMV Y_X11_lose 1 11 := ⟨⟨m_5_170, m_1_13, ⟨by decide +kernel, by decide +kernel, by decide +kernel⟩, by decide⟩, m_5_168, m_5_169, ⟨_, _, rfl⟩, by decide⟩
def Y_X11_back : MY := (yX11_back, cX11_back, 2, some .int)
theorem cm_X11_back : CMV Y_X11_back 1 11 := ⟨⟨m_5_185, m_1_13, ⟨by decide +kernel, by decide +kernel, by decide +kernel⟩, by decide⟩, m_5_183, m_5_184, ⟨_, _, rfl⟩, by decide⟩
def Y_X11_out : MY := (yX11_out, cX11_out, 2, some .int)
theorem cm_X11_out : CMV Y_X11_out 1 11 := ⟨⟨m_5_189, m_1_13, ⟨by decide +kernel, by decide +kernel, by decide +kernel⟩, by decide⟩, m_5_187, m_5_188, ⟨_, _, rfl⟩, by decide⟩
def Y_X11_undo : MY := (yX11_undo, cX11_undo, 3, some .int)
theorem cm_X11_undo : CMV Y_X11_undo 1 11 := ⟨⟨m_5_193, m_1_13, ⟨by decide +kernel, by decide +kernel, by decide +kernel⟩, by decide⟩, m_5_191, m_5_192, ⟨_, _, rfl⟩, by decide⟩
def Y_X11_keep : MY := (yX11_keep, cX11_keep, 3, some .int)
theorem cm_X11_keep : CMV Y_X11_keep 1 11 := ⟨⟨m_5_197, m_1_13, ⟨by decide +kernel, by decide +kernel, by decide +kernel⟩, by decide⟩, m_5_195, m_5_196, ⟨_, _, rfl⟩, by decide⟩
def Y_X11_on : MY := (yX11_on, cX11_on, 3, some .int)
theorem cm_X11_on : CMV Y_X11_on 1 11 := ⟨⟨m_5_201, m_1_13, ⟨by decide +kernel, by decide +kernel, by decide +kernel⟩, by decide⟩, m_5_199, m_5_200, ⟨_, _, rfl⟩, by decide⟩
def Y_X11_lowestOf : MY := (yX11_lowestOf, cX11_lowestOf, 2, some .int)
theorem cm_X11_lowestOf : CMS Y_X11_lowestOf 1 := ⟨⟨m_5_216, m_1_13, ⟨by decide +kernel, by decide +kernel, by decide +kernel⟩, by decide⟩, m_5_215⟩
def Y_X11_measure : MY := (yX11_measure, cX11_measure, 7, none)
theorem cm_X11_measure : CMV Y_X11_measure 0 11 := ⟨⟨m_5_213, m_1_13, ⟨by decide +kernel, by decide +kernel, by decide +kernel⟩, by decide⟩, m_5_212, ms_39, ⟨_, _, rfl⟩, by decide⟩
def Y_X11_good : MY := (yX11_good, cX11_good, 2, some .int)
theorem cm_X11_good : CMV Y_X11_good 1 11 := ⟨⟨m_5_205, m_1_13, ⟨by decide +kernel, by decide +kernel, by decide +kernel⟩, by decide⟩, m_5_203, m_5_204, ⟨_, _, rfl⟩, by decide⟩
def Y_X11_pairs : MY := (yX11_pairs, cX11_pairs, 9, some .int)
theorem cm_X11_pairs : CMV Y_X11_pairs 1 11 := ⟨⟨m_5_220, m_1_13, ⟨by decide +kernel, by decide +kernel, by decide +kernel⟩, by decide⟩, m_5_218, m_5_219, ⟨_, _, rfl⟩, by decide⟩
def Y_X11_missed : MY := (yX11_missed, cX11_missed, 6, some .int)
theorem cm_X11_missed : CMV Y_X11_missed 0 11 := ⟨⟨m_5_224, m_1_13, ⟨by decide +kernel, by decide +kernel, by decide +kernel⟩, by decide⟩, m_5_222, m_5_223, ⟨_, _, rfl⟩, by decide⟩
def Y_X11_wished : MY := (yX11_wished, cX11_wished, 6, some .int)
theorem cm_X11_wished : CMV Y_X11_wished 0 11 := ⟨⟨m_5_228, m_1_13, ⟨by decide +kernel, by decide +kernel, by decide +kernel⟩, by decide⟩, m_5_226, m_5_227, ⟨_, _, rfl⟩, by decide⟩
def Y_X11_listTwos : MY := (yX11_listTwos, cX11_listTwos, 3, none)
theorem cm_X11_listTwos : CMV Y_X11_listTwos 0 11 := ⟨⟨m_5_236, m_1_13, ⟨by decide +kernel, by decide +kernel, by decide +kernel⟩, by decide⟩, m_5_235, ms_40, ⟨_, _, rfl⟩, by decide⟩
def Y_X11_useOf : MY := (yX11_useOf, cX11_useOf, 3, some .int)
theorem cm_X11_useOf : CMV Y_X11_useOf 1 11 := ⟨⟨m_6_0, m_1_13, ⟨by decide +kernel, by decide +kernel, by decide +kernel⟩, by decide⟩, m_5_239, ms_41, ⟨_, _, rfl⟩, by decide⟩
def Y_X11_takeOff : MY := (yX11_takeOff, cX11_takeOff, 2, none)
theorem cm_X11_takeOff : CMV Y_X11_takeOff 1 11 := ⟨⟨m_6_4, m_1_13, ⟨by decide +kernel, by decide +kernel, by decide +kernel⟩, by decide⟩, m_6_3, ms_42, ⟨_, _, rfl⟩, by decide⟩
def Y_X11_days : MY := (yX11_days, cX11_days, 10, some .int)
theorem cm_X11_days : CMV Y_X11_days 2 11 := ⟨⟨m_5_232, m_1_13, ⟨by decide +kernel, by decide +kernel, by decide +kernel⟩, by decide⟩, m_5_230, m_5_231, ⟨_, _, rfl⟩, by decide⟩
def Y_X11_worstOf : MY := (yX11_worstOf, cX11_worstOf, 5, some .int)
theorem cm_X11_worstOf : CMV Y_X11_worstOf 1 11 := ⟨⟨m_6_12, m_1_13, ⟨by decide +kernel, by decide +kernel, by decide +kernel⟩, by decide⟩, m_6_11, ms_43, ⟨_, _, rfl⟩, by decide⟩
def Y_X11_room : MY := (yX11_room, cX11_room, 5, some .int)
theorem cm_X11_room : CMV Y_X11_room 0 11 := ⟨⟨m_6_8, m_1_13, ⟨by decide +kernel, by decide +kernel, by decide +kernel⟩, by decide⟩, m_6_6, m_6_7, ⟨_, _, rfl⟩, by decide⟩
def Y_X11_join : MY := (yX11_join, cX11_join, 3, some .int)
theorem cm_X11_join : CMV Y_X11_join 2 11 := ⟨⟨m_6_16, m_1_13, ⟨by decide +kernel, by decide +kernel, by decide +kernel⟩, by decide⟩, m_6_14, m_6_15, ⟨_, _, rfl⟩, by decide⟩
def Y_X11_judge : MY := (yX11_judge, cX11_judge, 7, some .int)
theorem cm_X11_judge : CMV Y_X11_judge 2 11 := ⟨⟨m_6_24, m_1_13, ⟨by decide +kernel, by decide +kernel, by decide +kernel⟩, by decide⟩, m_6_23, ms_44, ⟨_, _, rfl⟩, by decide⟩
def Y_X11_isSo : MY := (yX11_isSo, cX11_isSo, 8, some .boolean)
theorem cm_X11_isSo : CMV Y_X11_isSo 5 11 := ⟨⟨m_6_28, m_1_13, ⟨by decide +kernel, by decide +kernel, by decide +kernel⟩, by decide⟩, m_6_27, ms_45, ⟨_, _, rfl⟩, by decide⟩
def Y_X11_sorts : MY := (yX11_sorts, cX11_sorts, 6, some .int)
theorem cm_X11_sorts : CMV Y_X11_sorts 2 11 := ⟨⟨m_6_20, m_1_13, ⟨by decide +kernel, by decide +kernel, by decide +kernel⟩, by decide⟩, m_6_18, m_6_19, ⟨_, _, rfl⟩, by decide⟩
def Y_X11_hands : MY := (yX11_hands, cX11_hands, 6, some .int)
theorem cm_X11_hands : CMV Y_X11_hands 2 11 := ⟨⟨m_6_32, m_1_13, ⟨by decide +kernel, by decide +kernel, by decide +kernel⟩, by decide⟩, m_6_30, m_6_31, ⟨_, _, rfl⟩, by decide⟩
def Y_X11_kindsBy : MY := (yX11_kindsBy, cX11_kindsBy, 5, some .int)
theorem cm_X11_kindsBy : CMV Y_X11_kindsBy 2 11 := ⟨⟨m_6_40, m_1_13, ⟨by decide +kernel, by decide +kernel, by decide +kernel⟩, by decide⟩, m_6_39, ms_46, ⟨_, _, rfl⟩, by decide⟩
def Y_X11_kinds : MY := (yX11_kinds, cX11_kinds, 4, some .int)
theorem cm_X11_kinds : CMV Y_X11_kinds 2 11 := ⟨⟨m_6_36, m_1_13, ⟨by decide +kernel, by decide +kernel, by decide +kernel⟩, by decide⟩, m_6_34, m_6_35, ⟨_, _, rfl⟩, by decide⟩
def Y_X11_partBy : MY := (yX11_partBy, cX11_partBy, 9, some .int)
theorem cm_X11_partBy : CMV Y_X11_partBy 3 11 := ⟨⟨m_6_48, m_1_13, ⟨by decide +kernel, by decide +kernel, by decide +kernel⟩, by decide⟩, m_6_47, ms_47, ⟨_, _, rfl⟩, by decide⟩
def Y_X11_test : MY := (yX11_test, cX11_test, 9, some .int)
theorem cm_X11_test : CMV Y_X11_test 2 11 := ⟨⟨m_6_44, m_1_13, ⟨by decide +kernel, by decide +kernel, by decide +kernel⟩, by decide⟩, m_6_42, m_6_43, ⟨_, _, rfl⟩, by decide⟩
def Y_X11_unitOf : MY := (yX11_unitOf, cX11_unitOf, 3, some .int)
theorem cm_X11_unitOf : CMS Y_X11_unitOf 1 := ⟨⟨m_6_55, m_1_13, ⟨by decide +kernel, by decide +kernel, by decide +kernel⟩, by decide⟩, m_6_54⟩
def Y_X11_hasOf : MY := (yX11_hasOf, cX11_hasOf, 6, some .int)
theorem cm_X11_hasOf : CMV Y_X11_hasOf 2 11 := ⟨⟨m_6_59, m_1_13, ⟨by decide +kernel, by decide +kernel, by decide +kernel⟩, by decide⟩, m_6_58, ms_48, ⟨_, _, rfl⟩, by decide⟩
def Y_X11_duel : MY := (yX11_duel, cX11_duel, 9, some .int)
theorem cm_X11_duel : CMV Y_X11_duel 1 11 := ⟨⟨m_6_52, m_1_13, ⟨by decide +kernel, by decide +kernel, by decide +kernel⟩, by decide⟩, m_6_50, m_6_51, ⟨_, _, rfl⟩, by decide⟩
def Y_X11_bestTurn : MY := (yX11_bestTurn, cX11_bestTurn, 8, some .int)
theorem cm_X11_bestTurn : CMV Y_X11_bestTurn 3 11 := ⟨⟨m_6_63, m_1_13, ⟨by decide +kernel, by decide +kernel, by decide +kernel⟩, by decide⟩, m_6_62, ms_49, ⟨_, _, rfl⟩, by decide⟩
def Y_X11_areOf : MY := (yX11_areOf, cX11_areOf, 2, some .boolean)
theorem cm_X11_areOf : CMS Y_X11_areOf 2 := ⟨⟨m_6_70, m_1_13, ⟨by decide +kernel, by decide +kernel, by decide +kernel⟩, by decide⟩, m_6_69⟩
def Y_X11_lossOf : MY := (yX11_lossOf, cX11_lossOf, 4, some .int)
theorem cm_X11_lossOf : CMV Y_X11_lossOf 3 11 := ⟨⟨m_6_78, m_1_13, ⟨by decide +kernel, by decide +kernel, by decide +kernel⟩, by decide⟩, m_6_77, ms_51, ⟨_, _, rfl⟩, by decide⟩
def Y_X11_waysOf : MY := (yX11_waysOf, cX11_waysOf, 9, some .long)
theorem cm_X11_waysOf : CMV Y_X11_waysOf 4 11 := ⟨⟨m_6_74, m_1_13, ⟨by decide +kernel, by decide +kernel, by decide +kernel⟩, by decide⟩, m_6_73, ms_50, ⟨_, _, rfl⟩, by decide⟩
def Y_X11_allWays : MY := (yX11_allWays, cX11_allWays, 5, some .long)
theorem cm_X11_allWays : CMV Y_X11_allWays 1 11 := ⟨⟨m_6_82, m_1_13, ⟨by decide +kernel, by decide +kernel, by decide +kernel⟩, by decide⟩, m_6_81, ms_52, ⟨_, _, rfl⟩, by decide⟩
def Y_X11_odds : MY := (yX11_odds, cX11_odds, 8, some .int)
theorem cm_X11_odds : CMV Y_X11_odds 3 11 := ⟨⟨m_6_67, m_1_13, ⟨by decide +kernel, by decide +kernel, by decide +kernel⟩, by decide⟩, m_6_65, m_6_66, ⟨_, _, rfl⟩, by decide⟩
def Y_X11_mid : MY := (yX11_mid, cX11_mid, 7, some .int)
theorem cm_X11_mid : CMV Y_X11_mid 2 11 := ⟨⟨m_6_91, m_1_13, ⟨by decide +kernel, by decide +kernel, by decide +kernel⟩, by decide⟩, m_6_89, m_6_90, ⟨_, _, rfl⟩, by decide⟩
def Y_X11_lots : MY := (yX11_lots, cX11_lots, 7, some .int)
theorem cm_X11_lots : CMV Y_X11_lots 2 11 := ⟨⟨m_6_95, m_1_13, ⟨by decide +kernel, by decide +kernel, by decide +kernel⟩, by decide⟩, m_6_93, m_6_94, ⟨_, _, rfl⟩, by decide⟩
def Y_X11_asked : MY := (yX11_asked, cX11_asked, 1, some .int)
theorem cm_X11_asked : CMV Y_X11_asked 0 11 := ⟨⟨m_6_103, m_1_13, ⟨by decide +kernel, by decide +kernel, by decide +kernel⟩, by decide⟩, m_6_101, m_6_102, ⟨_, _, rfl⟩, by decide⟩
def Y_X11_upper : MY := (yX11_upper, cX11_upper, 1, some .long)
theorem cm_X11_upper : CMV Y_X11_upper 0 11 := ⟨⟨m_6_107, m_1_13, ⟨by decide +kernel, by decide +kernel, by decide +kernel⟩, by decide⟩, m_6_105, m_6_106, ⟨_, _, rfl⟩, by decide⟩
def Y_X11_lower : MY := (yX11_lower, cX11_lower, 1, some .long)
theorem cm_X11_lower : CMV Y_X11_lower 0 11 := ⟨⟨m_6_111, m_1_13, ⟨by decide +kernel, by decide +kernel, by decide +kernel⟩, by decide⟩, m_6_109, m_6_110, ⟨_, _, rfl⟩, by decide⟩
def Y_X11_count : MY := (yX11_count, cX11_count, 4, some .int)
theorem cm_X11_count : CMV Y_X11_count 1 11 := ⟨⟨m_6_115, m_1_13, ⟨by decide +kernel, by decide +kernel, by decide +kernel⟩, by decide⟩, m_6_113, m_6_114, ⟨_, _, rfl⟩, by decide⟩
def Y_X11_finding : MY := (yX11_finding, cX11_finding, 1, some .int)
theorem cm_X11_finding : CMV Y_X11_finding 0 11 := ⟨⟨m_6_119, m_1_13, ⟨by decide +kernel, by decide +kernel, by decide +kernel⟩, by decide⟩, m_6_117, m_6_118, ⟨_, _, rfl⟩, by decide⟩
def Y_X11_findings : MY := (yX11_findings, cX11_findings, 2, some .int)
theorem cm_X11_findings : CMV Y_X11_findings 1 11 := ⟨⟨m_6_123, m_1_13, ⟨by decide +kernel, by decide +kernel, by decide +kernel⟩, by decide⟩, m_6_121, m_6_122, ⟨_, _, rfl⟩, by decide⟩
def Y_X11_digest : MY := (yX11_digest, cX11_digest, 5, some .long)
theorem cm_X11_digest : CMV Y_X11_digest 0 11 := ⟨⟨m_6_127, m_1_13, ⟨by decide +kernel, by decide +kernel, by decide +kernel⟩, by decide⟩, m_6_125, m_6_126, ⟨_, _, rfl⟩, by decide⟩
def Y_X0_plan : MY := (yX0_plan, cX0_plan, 6, some .int)
theorem cm_X0_plan : CMV Y_X0_plan 4 0 := ⟨⟨m_3_174, m_1_9, ⟨by decide +kernel, by decide +kernel, by decide +kernel⟩, by decide⟩, m_3_172, m_3_173, ⟨_, _, rfl⟩, by decide⟩
def Y_X0_gather : MY := (yX0_gather, cX0_gather, 5, none)
theorem cm_X0_gather : CMV Y_X0_gather 1 0 := ⟨⟨m_3_178, m_1_9, ⟨by decide +kernel, by decide +kernel, by decide +kernel⟩, by decide⟩, m_3_177, ms_11, ⟨_, _, rfl⟩, by decide⟩
def Y_X0_search : MY := (yX0_search, cX0_search, 8, none)
theorem cm_X0_search : CMS Y_X0_search 4 := ⟨⟨m_3_185, m_1_9, ⟨by decide +kernel, by decide +kernel, by decide +kernel⟩, by decide⟩, m_3_184⟩
def Y_X1_reckon : MY := (yX1_reckon, cX1_reckon, 12, none)
theorem cm_X1_reckon : CMV Y_X1_reckon 4 1 := ⟨⟨m_4_58, m_1_12, ⟨by decide +kernel, by decide +kernel, by decide +kernel⟩, by decide⟩, m_4_56, m_4_57, ⟨_, _, rfl⟩, by decide⟩
def Y_X1_lossOf : MY := (yX1_lossOf, cX1_lossOf, 3, some .int)
theorem cm_X1_lossOf : CMS Y_X1_lossOf 3 := ⟨⟨m_4_62, m_1_12, ⟨by decide +kernel, by decide +kernel, by decide +kernel⟩, by decide⟩, m_4_61⟩
def Y_X1_waysTo : MY := (yX1_waysTo, cX1_waysTo, 7, some .long)
theorem cm_X1_waysTo : CMV Y_X1_waysTo 3 1 := ⟨⟨m_4_69, m_1_12, ⟨by decide +kernel, by decide +kernel, by decide +kernel⟩, by decide⟩, m_4_68, ms_16, ⟨_, _, rfl⟩, by decide⟩
def Y_X1_commonDivisor : MY := (yX1_commonDivisor, cX1_commonDivisor, 7, some .long)
theorem cm_X1_commonDivisor : CMS Y_X1_commonDivisor 2 := ⟨⟨m_4_72, m_1_12, ⟨by decide +kernel, by decide +kernel, by decide +kernel⟩, by decide⟩, m_4_71⟩
def Y_X2_roomLeft : MY := (yX2_roomLeft, cX2_roomLeft, 1, some .int)
theorem cm_X2_roomLeft : CMV Y_X2_roomLeft 0 2 := ⟨⟨m_3_59, m_1_6, ⟨by decide +kernel, by decide +kernel, by decide +kernel⟩, by decide⟩, m_3_57, m_3_58, ⟨_, _, rfl⟩, by decide⟩
def Y_X2_add : MY := (yX2_add, cX2_add, 4, none)
theorem cm_X2_add : CMV Y_X2_add 3 2 := ⟨⟨m_3_67, m_1_6, ⟨by decide +kernel, by decide +kernel, by decide +kernel⟩, by decide⟩, m_3_65, m_3_66, ⟨_, _, rfl⟩, by decide⟩
def Y_X2_becomeLike : MY := (yX2_becomeLike, cX2_becomeLike, 3, none)
theorem cm_X2_becomeLike : CMV Y_X2_becomeLike 1 2 := ⟨⟨m_3_115, m_1_6, ⟨by decide +kernel, by decide +kernel, by decide +kernel⟩, by decide⟩, m_3_113, m_3_114, ⟨_, _, rfl⟩, by decide⟩
def Y_X3_fill : MY := (yX3_fill, cX3_fill, 3, none)
theorem cm_X3_fill : CMV Y_X3_fill 1 3 := ⟨⟨m_2_206, m_1_5, ⟨by decide +kernel, by decide +kernel, by decide +kernel⟩, by decide⟩, m_2_204, m_2_205, ⟨_, _, rfl⟩, by decide⟩
def Y_X3_has : MY := (yX3_has, cX3_has, 2, some .boolean)
theorem cm_X3_has : CMV Y_X3_has 1 3 := ⟨⟨m_2_218, m_1_5, ⟨by decide +kernel, by decide +kernel, by decide +kernel⟩, by decide⟩, m_2_216, m_2_217, ⟨_, _, rfl⟩, by decide⟩
def Y_X3_isSet : MY := (yX3_isSet, cX3_isSet, 2, some .boolean)
theorem cm_X3_isSet : CMV Y_X3_isSet 1 3 := ⟨⟨m_3_127, m_1_5, ⟨by decide +kernel, by decide +kernel, by decide +kernel⟩, by decide⟩, m_3_125, m_3_126, ⟨_, _, rfl⟩, by decide⟩
def Y_X3_isInside : MY := (yX3_isInside, cX3_isInside, 2, some .boolean)
theorem cm_X3_isInside : CMV Y_X3_isInside 1 3 := ⟨⟨m_3_14, m_1_5, ⟨by decide +kernel, by decide +kernel, by decide +kernel⟩, by decide⟩, m_3_12, m_3_13, ⟨_, _, rfl⟩, by decide⟩
def Y_X3_canBeLost : MY := (yX3_canBeLost, cX3_canBeLost, 2, some .boolean)
theorem cm_X3_canBeLost : CMV Y_X3_canBeLost 1 3 := ⟨⟨m_3_75, m_1_5, ⟨by decide +kernel, by decide +kernel, by decide +kernel⟩, by decide⟩, m_3_73, m_3_74, ⟨_, _, rfl⟩, by decide⟩
def Y_X3_setOf : MY := (yX3_setOf, cX3_setOf, 4, some .int)
theorem cm_X3_setOf : CMV Y_X3_setOf 1 3 := ⟨⟨m_3_83, m_1_5, ⟨by decide +kernel, by decide +kernel, by decide +kernel⟩, by decide⟩, m_3_81, m_3_82, ⟨_, _, rfl⟩, by decide⟩
def Y_X3_howManyInside : MY := (yX3_howManyInside, cX3_howManyInside, 1, some .int)
theorem cm_X3_howManyInside : CMV Y_X3_howManyInside 0 3 := ⟨⟨m_3_79, m_1_5, ⟨by decide +kernel, by decide +kernel, by decide +kernel⟩, by decide⟩, m_3_77, m_3_78, ⟨_, _, rfl⟩, by decide⟩
def Y_X3_hasRoom : MY := (yX3_hasRoom, cX3_hasRoom, 1, some .boolean)
theorem cm_X3_hasRoom : CMV Y_X3_hasRoom 0 3 := ⟨⟨m_3_97, m_1_5, ⟨by decide +kernel, by decide +kernel, by decide +kernel⟩, by decide⟩, m_3_95, m_3_96, ⟨_, _, rfl⟩, by decide⟩
def Y_X3_allWear : MY := (yX3_allWear, cX3_allWear, 3, some .int)
theorem cm_X3_allWear : CMV Y_X3_allWear 0 3 := ⟨⟨m_4_114, m_1_5, ⟨by decide +kernel, by decide +kernel, by decide +kernel⟩, by decide⟩, m_4_112, m_4_113, ⟨_, _, rfl⟩, by decide⟩
def Y_X3_howManyOf : MY := (yX3_howManyOf, cX3_howManyOf, 4, some .int)
theorem cm_X3_howManyOf : CMV Y_X3_howManyOf 1 3 := ⟨⟨m_4_118, m_1_5, ⟨by decide +kernel, by decide +kernel, by decide +kernel⟩, by decide⟩, m_4_116, m_4_117, ⟨_, _, rfl⟩, by decide⟩
def Y_X3_matesOf : MY := (yX3_matesOf, cX3_matesOf, 4, some .int)
theorem cm_X3_matesOf : CMV Y_X3_matesOf 1 3 := ⟨⟨m_3_10, m_1_5, ⟨by decide +kernel, by decide +kernel, by decide +kernel⟩, by decide⟩, m_3_8, m_3_9, ⟨_, _, rfl⟩, by decide⟩
def Y_X3_sameSortAs : MY := (yX3_sameSortAs, cX3_sameSortAs, 4, some .int)
theorem cm_X3_sameSortAs : CMV Y_X3_sameSortAs 1 3 := ⟨⟨m_3_27, m_1_5, ⟨by decide +kernel, by decide +kernel, by decide +kernel⟩, by decide⟩, m_3_25, m_3_26, ⟨_, _, rfl⟩, by decide⟩
def Y_X3_act : MY := (yX3_act, cX3_act, 4, none)
theorem cm_X3_act : CMV Y_X3_act 3 3 := ⟨⟨m_3_63, m_1_5, ⟨by decide +kernel, by decide +kernel, by decide +kernel⟩, by decide⟩, m_3_61, m_3_62, ⟨_, _, rfl⟩, by decide⟩
def Y_X3_actByLot : MY := (yX3_actByLot, cX3_actByLot, 4, none)
theorem cm_X3_actByLot : CMV Y_X3_actByLot 1 3 := ⟨⟨m_4_87, m_1_5, ⟨by decide +kernel, by decide +kernel, by decide +kernel⟩, by decide⟩, m_4_85, m_4_86, ⟨_, _, rfl⟩, by decide⟩
def Y_X3_wearFirstPair : MY := (yX3_wearFirstPair, cX3_wearFirstPair, 3, none)
theorem cm_X3_wearFirstPair : CMV Y_X3_wearFirstPair 0 3 := ⟨⟨m_4_94, m_1_5, ⟨by decide +kernel, by decide +kernel, by decide +kernel⟩, by decide⟩, m_4_93, ms_17, ⟨_, _, rfl⟩, by decide⟩
def Y_X3_replay : MY := (yX3_replay, cX3_replay, 3, none)
theorem cm_X3_replay : CMV Y_X3_replay 0 3 := ⟨⟨m_2_210, m_1_5, ⟨by decide +kernel, by decide +kernel, by decide +kernel⟩, by decide⟩, m_2_208, m_2_209, ⟨_, _, rfl⟩, by decide⟩
def Y_X3_carryOut : MY := (yX3_carryOut, cX3_carryOut, 4, none)
theorem cm_X3_carryOut : CMV Y_X3_carryOut 3 3 := ⟨⟨m_2_214, m_1_5, ⟨by decide +kernel, by decide +kernel, by decide +kernel⟩, by decide⟩, m_2_213, ms_6, ⟨_, _, rfl⟩, by decide⟩
def Y_X4_becomeLike : MY := (yX4_becomeLike, cX4_becomeLike, 2, none)
theorem cm_X4_becomeLike : CMV Y_X4_becomeLike 1 4 := ⟨⟨m_3_36, m_1_7, ⟨by decide +kernel, by decide +kernel, by decide +kernel⟩, by decide⟩, m_3_34, m_3_35, ⟨_, _, rfl⟩, by decide⟩
def Y_X4_isOf : MY := (yX4_isOf, cX4_isOf, 2, some .boolean)
theorem cm_X4_isOf : CMV Y_X4_isOf 1 4 := ⟨⟨m_3_4, m_1_7, ⟨by decide +kernel, by decide +kernel, by decide +kernel⟩, by decide⟩, m_3_2, m_3_3, ⟨_, _, rfl⟩, by decide⟩
def Y_X4_bareWarmth : MY := (yX4_bareWarmth, cX4_bareWarmth, 1, some .int)
theorem cm_X4_bareWarmth : CMV Y_X4_bareWarmth 0 4 := ⟨⟨m_2_235, m_1_7, ⟨by decide +kernel, by decide +kernel, by decide +kernel⟩, by decide⟩, m_2_233, m_2_234, ⟨_, _, rfl⟩, by decide⟩
def Y_X4_warmth : MY := (yX4_warmth, cX4_warmth, 2, some .int)
theorem cm_X4_warmth : CMV Y_X4_warmth 0 4 := ⟨⟨m_2_231, m_1_7, ⟨by decide +kernel, by decide +kernel, by decide +kernel⟩, by decide⟩, m_2_229, m_2_230, ⟨_, _, rfl⟩, by decide⟩
def Y_X4_goesOn : MY := (yX4_goesOn, cX4_goesOn, 2, some .boolean)
theorem cm_X4_goesOn : CMV Y_X4_goesOn 1 4 := ⟨⟨m_3_22, m_1_7, ⟨by decide +kernel, by decide +kernel, by decide +kernel⟩, by decide⟩, m_3_21, ms_7, ⟨_, _, rfl⟩, by decide⟩
def Y_X4_makesPairWith : MY := (yX4_makesPairWith, cX4_makesPairWith, 2, some .boolean)
theorem cm_X4_makesPairWith : CMV Y_X4_makesPairWith 1 4 := ⟨⟨m_3_18, m_1_7, ⟨by decide +kernel, by decide +kernel, by decide +kernel⟩, by decide⟩, m_3_16, m_3_17, ⟨_, _, rfl⟩, by decide⟩
def Y_X4_goodWith : MY := (yX4_goodWith, cX4_goodWith, 3, some .int)
theorem cm_X4_goodWith : CMV Y_X4_goodWith 1 4 := ⟨⟨m_3_41, m_1_7, ⟨by decide +kernel, by decide +kernel, by decide +kernel⟩, by decide⟩, m_3_39, m_3_40, ⟨_, _, rfl⟩, by decide⟩
def Y_X4_tell : MY := (yX4_tell, cX4_tell, 2, some .int)
theorem cm_X4_tell : CMV Y_X4_tell 1 4 := ⟨⟨m_2_227, m_1_7, ⟨by decide +kernel, by decide +kernel, by decide +kernel⟩, by decide⟩, m_2_225, m_2_226, ⟨_, _, rfl⟩, by decide⟩
def Y_X5_isWellTold : MY := (yX5_isWellTold, cX5_isWellTold, 8, some .boolean)
theorem cm_X5_isWellTold : CMV Y_X5_isWellTold 4 5 := ⟨⟨m_3_224, m_1_10, ⟨by decide +kernel, by decide +kernel, by decide +kernel⟩, by decide⟩, m_3_222, m_3_223, ⟨_, _, rfl⟩, by decide⟩
def Y_X5_agrees : MY := (yX5_agrees, cX5_agrees, 6, some .boolean)
theorem cm_X5_agrees : CMV Y_X5_agrees 3 5 := ⟨⟨m_3_235, m_1_10, ⟨by decide +kernel, by decide +kernel, by decide +kernel⟩, by decide⟩, m_3_234, ms_14, ⟨_, _, rfl⟩, by decide⟩
def Y_X5_sortsLeft : MY := (yX5_sortsLeft, cX5_sortsLeft, 7, some .int)
theorem cm_X5_sortsLeft : CMV Y_X5_sortsLeft 4 5 := ⟨⟨m_3_231, m_1_10, ⟨by decide +kernel, by decide +kernel, by decide +kernel⟩, by decide⟩, m_3_229, m_3_230, ⟨_, _, rfl⟩, by decide⟩
def Y_X5_handsLeft : MY := (yX5_handsLeft, cX5_handsLeft, 7, some .int)
theorem cm_X5_handsLeft : CMV Y_X5_handsLeft 4 5 := ⟨⟨m_4_3, m_1_10, ⟨by decide +kernel, by decide +kernel, by decide +kernel⟩, by decide⟩, m_4_1, m_4_2, ⟨_, _, rfl⟩, by decide⟩
def Y_X5_kindsLeft : MY := (yX5_kindsLeft, cX5_kindsLeft, 7, some .int)
theorem cm_X5_kindsLeft : CMV Y_X5_kindsLeft 4 5 := ⟨⟨m_4_11, m_1_10, ⟨by decide +kernel, by decide +kernel, by decide +kernel⟩, by decide⟩, m_4_9, m_4_10, ⟨_, _, rfl⟩, by decide⟩
def Y_X5_nextTry : MY := (yX5_nextTry, cX5_nextTry, 8, some .int)
theorem cm_X5_nextTry : CMV Y_X5_nextTry 3 5 := ⟨⟨m_4_19, m_1_10, ⟨by decide +kernel, by decide +kernel, by decide +kernel⟩, by decide⟩, m_4_17, m_4_18, ⟨_, _, rfl⟩, by decide⟩
def Y_X5_greatestPart : MY := (yX5_greatestPart, cX5_greatestPart, 7, some .int)
theorem cm_X5_greatestPart : CMV Y_X5_greatestPart 4 5 := ⟨⟨m_4_23, m_1_10, ⟨by decide +kernel, by decide +kernel, by decide +kernel⟩, by decide⟩, m_4_21, m_4_22, ⟨_, _, rfl⟩, by decide⟩
def Y_X5_howManyLike : MY := (yX5_howManyLike, cX5_howManyLike, 5, some .int)
theorem cm_X5_howManyLike : CMV Y_X5_howManyLike 2 5 := ⟨⟨m_4_27, m_1_10, ⟨by decide +kernel, by decide +kernel, by decide +kernel⟩, by decide⟩, m_4_26, ms_15, ⟨_, _, rfl⟩, by decide⟩
def Y_X5_gainOfStretch : MY := (yX5_gainOfStretch, cX5_gainOfStretch, 5, some .int)
theorem cm_X5_gainOfStretch : CMV Y_X5_gainOfStretch 2 5 := ⟨⟨m_3_32, m_1_10, ⟨by decide +kernel, by decide +kernel, by decide +kernel⟩, by decide⟩, m_3_30, m_3_31, ⟨_, _, rfl⟩, by decide⟩
def Y_X6_weigh : MY := (yX6_weigh, cX6_weigh, 4, none)
theorem cm_X6_weigh : CMV Y_X6_weigh 1 6 := ⟨⟨m_3_131, m_1_8, ⟨by decide +kernel, by decide +kernel, by decide +kernel⟩, by decide⟩, m_3_129, m_3_130, ⟨_, _, rfl⟩, by decide⟩
def Y_X6_weighWith : MY := (yX6_weighWith, cX6_weighWith, 7, none)
theorem cm_X6_weighWith : CMV Y_X6_weighWith 2 6 := ⟨⟨m_3_136, m_1_8, ⟨by decide +kernel, by decide +kernel, by decide +kernel⟩, by decide⟩, m_3_135, ms_8, ⟨_, _, rfl⟩, by decide⟩
def Y_X6_partTo : MY := (yX6_partTo, cX6_partTo, 7, none)
theorem cm_X6_partTo : CMV Y_X6_partTo 3 6 := ⟨⟨m_3_145, m_1_8, ⟨by decide +kernel, by decide +kernel, by decide +kernel⟩, by decide⟩, m_3_143, m_3_144, ⟨_, _, rfl⟩, by decide⟩
def Y_X6_firstMate : MY := (yX6_firstMate, cX6_firstMate, 7, some .int)
theorem cm_X6_firstMate : CMV Y_X6_firstMate 3 6 := ⟨⟨m_3_152, m_1_8, ⟨by decide +kernel, by decide +kernel, by decide +kernel⟩, by decide⟩, m_3_151, ms_9, ⟨_, _, rfl⟩, by decide⟩
def Y_X6_safestSet : MY := (yX6_safestSet, cX6_safestSet, 6, some .int)
theorem cm_X6_safestSet : CMV Y_X6_safestSet 1 6 := ⟨⟨m_3_195, m_1_8, ⟨by decide +kernel, by decide +kernel, by decide +kernel⟩, by decide⟩, m_3_193, m_3_194, ⟨_, _, rfl⟩, by decide⟩
def Y_X6_isSafer : MY := (yX6_isSafer, cX6_isSafer, 6, some .boolean)
theorem cm_X6_isSafer : CMV Y_X6_isSafer 3 6 := ⟨⟨m_3_200, m_1_8, ⟨by decide +kernel, by decide +kernel, by decide +kernel⟩, by decide⟩, m_3_199, ms_12, ⟨_, _, rfl⟩, by decide⟩
def Y_X6_afterWorstLoss : MY := (yX6_afterWorstLoss, cX6_afterWorstLoss, 5, some .int)
theorem cm_X6_afterWorstLoss : CMV Y_X6_afterWorstLoss 2 6 := ⟨⟨m_3_204, m_1_8, ⟨by decide +kernel, by decide +kernel, by decide +kernel⟩, by decide⟩, m_3_202, m_3_203, ⟨_, _, rfl⟩, by decide⟩
def Y_X6_markSetsOf : MY := (yX6_markSetsOf, cX6_markSetsOf, 3, none)
theorem cm_X6_markSetsOf : CMV Y_X6_markSetsOf 1 6 := ⟨⟨m_4_54, m_1_8, ⟨by decide +kernel, by decide +kernel, by decide +kernel⟩, by decide⟩, m_4_52, m_4_53, ⟨_, _, rfl⟩, by decide⟩
def Y_X7_faultOf : MY := (yX7_faultOf, cX7_faultOf, 6, some .int)
theorem cm_X7_faultOf : CMV Y_X7_faultOf 2 7 := ⟨⟨m_2_182, m_1_4, ⟨by decide +kernel, by decide +kernel, by decide +kernel⟩, by decide⟩, m_2_180, m_2_181, ⟨_, _, rfl⟩, by decide⟩
def Y_X7_faultOfGlove : MY := (yX7_faultOfGlove, cX7_faultOfGlove, 4, some .int)
theorem cm_X7_faultOfGlove : CMV Y_X7_faultOfGlove 3 7 := ⟨⟨m_2_195, m_1_4, ⟨by decide +kernel, by decide +kernel, by decide +kernel⟩, by decide⟩, m_2_194, ms_5, ⟨_, _, rfl⟩, by decide⟩
def Y_X7_pastBlanks : MY := (yX7_pastBlanks, cX7_pastBlanks, 5, some .int)
theorem cm_X7_pastBlanks : CMS Y_X7_pastBlanks 3 := ⟨⟨m_2_186, m_1_4, ⟨by decide +kernel, by decide +kernel, by decide +kernel⟩, by decide⟩, m_2_185⟩
def Y_X7_figure : MY := (yX7_figure, cX7_figure, 6, some .int)
theorem cm_X7_figure : CMS Y_X7_figure 5 := ⟨⟨m_2_190, m_1_4, ⟨by decide +kernel, by decide +kernel, by decide +kernel⟩, by decide⟩, m_2_189⟩
def Y_X7_kindOf : MY := (yX7_kindOf, cX7_kindOf, 1, some .int)
theorem cm_X7_kindOf : CMS Y_X7_kindOf 1 := ⟨⟨m_2_198, m_1_4, ⟨by decide +kernel, by decide +kernel, by decide +kernel⟩, by decide⟩, m_2_197⟩
def Y_X8_leadAfter : MY := (yX8_leadAfter, cX8_leadAfter, 5, some .int)
theorem cm_X8_leadAfter : CMV Y_X8_leadAfter 3 8 := ⟨⟨m_4_37, m_1_11, ⟨by decide +kernel, by decide +kernel, by decide +kernel⟩, by decide⟩, m_4_35, m_4_36, ⟨_, _, rfl⟩, by decide⟩
def Y_X8_lead : MY := (yX8_lead, cX8_lead, 10, some .int)
theorem cm_X8_lead : CMS Y_X8_lead 6 := ⟨⟨m_4_41, m_1_11, ⟨by decide +kernel, by decide +kernel, by decide +kernel⟩, by decide⟩, m_4_40⟩
def Y_X9_isNumber : MY := (yX9_isNumber, cX9_isNumber, 2, some .boolean)
theorem cm_X9_isNumber : CMV Y_X9_isNumber 1 9 := ⟨⟨m_2_78, m_1_2, ⟨by decide +kernel, by decide +kernel, by decide +kernel⟩, by decide⟩, m_2_76, m_2_77, ⟨_, _, rfl⟩, by decide⟩
def Y_X9_sizeOf : MY := (yX9_sizeOf, cX9_sizeOf, 2, some .int)
theorem cm_X9_sizeOf : CMV Y_X9_sizeOf 1 9 := ⟨⟨m_2_107, m_1_2, ⟨by decide +kernel, by decide +kernel, by decide +kernel⟩, by decide⟩, m_2_105, m_2_106, ⟨_, _, rfl⟩, by decide⟩
def Y_X9_isThere : MY := (yX9_isThere, cX9_isThere, 2, some .boolean)
theorem cm_X9_isThere : CMV Y_X9_isThere 1 9 := ⟨⟨m_2_103, m_1_2, ⟨by decide +kernel, by decide +kernel, by decide +kernel⟩, by decide⟩, m_2_101, m_2_102, ⟨_, _, rfl⟩, by decide⟩
def Y_X9_holds : MY := (yX9_holds, cX9_holds, 3, some .boolean)
theorem cm_X9_holds : CMV Y_X9_holds 2 9 := ⟨⟨m_2_111, m_1_2, ⟨by decide +kernel, by decide +kernel, by decide +kernel⟩, by decide⟩, m_2_109, m_2_110, ⟨_, _, rfl⟩, by decide⟩
def Y_X9_reaches : MY := (yX9_reaches, cX9_reaches, 5, some .boolean)
theorem cm_X9_reaches : CMV Y_X9_reaches 3 9 := ⟨⟨m_2_144, m_1_2, ⟨by decide +kernel, by decide +kernel, by decide +kernel⟩, by decide⟩, m_2_142, m_2_143, ⟨_, _, rfl⟩, by decide⟩
def Y_X9_begin : MY := (yX9_begin, cX9_begin, 4, none)
theorem cm_X9_begin : CMV Y_X9_begin 2 9 := ⟨⟨m_2_86, m_1_2, ⟨by decide +kernel, by decide +kernel, by decide +kernel⟩, by decide⟩, m_2_84, m_2_85, ⟨_, _, rfl⟩, by decide⟩
def Y_X9_drop : MY := (yX9_drop, cX9_drop, 2, none)
theorem cm_X9_drop : CMV Y_X9_drop 1 9 := ⟨⟨m_2_136, m_1_2, ⟨by decide +kernel, by decide +kernel, by decide +kernel⟩, by decide⟩, m_2_134, m_2_135, ⟨_, _, rfl⟩, by decide⟩
def Y_X9_read : MY := (yX9_read, cX9_read, 3, some .int)
theorem cm_X9_read : CMV Y_X9_read 2 9 := ⟨⟨m_2_115, m_1_2, ⟨by decide +kernel, by decide +kernel, by decide +kernel⟩, by decide⟩, m_2_113, m_2_114, ⟨_, _, rfl⟩, by decide⟩
def Y_X9_write : MY := (yX9_write, cX9_write, 4, none)
theorem cm_X9_write : CMV Y_X9_write 3 9 := ⟨⟨m_2_120, m_1_2, ⟨by decide +kernel, by decide +kernel, by decide +kernel⟩, by decide⟩, m_2_118, m_2_119, ⟨_, _, rfl⟩, by decide⟩
def Y_X9_move : MY := (yX9_move, cX9_move, 6, none)
theorem cm_X9_move : CMV Y_X9_move 5 9 := ⟨⟨m_2_148, m_1_2, ⟨by decide +kernel, by decide +kernel, by decide +kernel⟩, by decide⟩, m_2_146, m_2_147, ⟨_, _, rfl⟩, by decide⟩
def Y_X9_total : MY := (yX9_total, cX9_total, 5, some .long)
theorem cm_X9_total : CMV Y_X9_total 1 9 := ⟨⟨m_2_161, m_1_2, ⟨by decide +kernel, by decide +kernel, by decide +kernel⟩, by decide⟩, m_2_159, m_2_160, ⟨_, _, rfl⟩, by decide⟩
def Y_X9_howManyThere : MY := (yX9_howManyThere, cX9_howManyThere, 3, some .int)
theorem cm_X9_howManyThere : CMV Y_X9_howManyThere 0 9 := ⟨⟨m_4_123, m_1_2, ⟨by decide +kernel, by decide +kernel, by decide +kernel⟩, by decide⟩, m_4_121, m_4_122, ⟨_, _, rfl⟩, by decide⟩
def Y_X9_digestOn : MY := (yX9_digestOn, cX9_digestOn, 5, some .long)
theorem cm_X9_digestOn : CMV Y_X9_digestOn 1 9 := ⟨⟨m_4_147, m_1_2, ⟨by decide +kernel, by decide +kernel, by decide +kernel⟩, by decide⟩, m_4_145, m_4_146, ⟨_, _, rfl⟩, by decide⟩
def Y_J6_bitCount_0f7a4 : MY := (yJ6_bitCount_0f7a4, cJ6_bitCount_0f7a4, 1, some .int)
theorem cm_J6_bitCount_0f7a4 : CMS Y_J6_bitCount_0f7a4 1 := ⟨⟨m_3_86, m_1_15, ⟨by decide +kernel, by decide +kernel, by decide +kernel⟩, by decide⟩, m_3_85⟩
