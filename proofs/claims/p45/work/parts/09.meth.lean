/-! fields and methods: what a call or an access needs of the tables -/
theorem vp_lt {i : Int32} {n : Nat} (h : vp_in i n) : i.toNatClampNeg < n := Nat.not_le.mp fun q => h (Or.inr q)
theorem inX0 : ∀ w ∈ u_ws RX0 TX0 7, w ∈ gtbl := List.forall_mem_cons.mpr ⟨m_1_209, List.forall_mem_cons.mpr ⟨m_1_211, List.forall_mem_cons.mpr ⟨m_1_213, List.forall_mem_cons.mpr ⟨m_1_215, List.forall_mem_cons.mpr ⟨m_1_217, List.forall_mem_cons.mpr ⟨m_1_219, List.forall_mem_cons.mpr ⟨m_1_221, fun w h => absurd h List.not_mem_nil⟩⟩⟩⟩⟩⟩⟩
theorem fb_0_0 : FB 0 0 2 "DrawerGloves$Calendar" "worn" "LDrawerGloves$Drawer;" := ⟨_, _, _, rfl, inX0, by decide, rfl, rfl, rfl, rfl, by decide⟩
theorem fb_0_1 : FB 0 1 2 "DrawerGloves$Calendar" "codes" "[I" := ⟨_, _, _, rfl, inX0, by decide, rfl, rfl, rfl, rfl, by decide⟩
theorem fb_0_2 : FB 0 2 2 "DrawerGloves$Calendar" "way" "[I" := ⟨_, _, _, rfl, inX0, by decide, rfl, rfl, rfl, rfl, by decide⟩
theorem fb_0_3 : FB 0 3 2 "DrawerGloves$Calendar" "bestWay" "[I" := ⟨_, _, _, rfl, inX0, by decide, rfl, rfl, rfl, rfl, by decide⟩
theorem fb_0_4 : FB 0 4 0 "DrawerGloves$Calendar" "size" "I" := ⟨_, _, _, rfl, inX0, by decide, rfl, rfl, rfl, rfl, by decide⟩
theorem fp_0_4 : FP 0 4 0 "DrawerGloves$Calendar" "size" "I" := ⟨_, _, _, tyX0, rfl, inX0, by decide, rfl, rfl, rfl, rfl, by decide, tyX0_ok, nmX0, rfl, by decide +kernel, rfl⟩
theorem fb_0_5 : FB 0 5 0 "DrawerGloves$Calendar" "dearest" "I" := ⟨_, _, _, rfl, inX0, by decide, rfl, rfl, rfl, rfl, by decide⟩
theorem fp_0_5 : FP 0 5 0 "DrawerGloves$Calendar" "dearest" "I" := ⟨_, _, _, tyX0, rfl, inX0, by decide, rfl, rfl, rfl, rfl, by decide, tyX0_ok, nmX0, rfl, by decide +kernel, rfl⟩
theorem fb_0_6 : FB 0 6 0 "DrawerGloves$Calendar" "best" "I" := ⟨_, _, _, rfl, inX0, by decide, rfl, rfl, rfl, rfl, by decide⟩
theorem fp_0_6 : FP 0 6 0 "DrawerGloves$Calendar" "best" "I" := ⟨_, _, _, tyX0, rfl, inX0, by decide, rfl, rfl, rfl, rfl, by decide, tyX0_ok, nmX0, rfl, by decide +kernel, rfl⟩
theorem inX1 : ∀ w ∈ u_ws RX1 TX1 3, w ∈ gtbl := List.forall_mem_cons.mpr ⟨m_2_23, List.forall_mem_cons.mpr ⟨m_2_25, List.forall_mem_cons.mpr ⟨m_2_27, fun w h => absurd h List.not_mem_nil⟩⟩⟩
theorem fb_1_0 : FB 1 0 2 "DrawerGloves$Chances" "loss" "[I" := ⟨_, _, _, rfl, inX1, by decide, rfl, rfl, rfl, rfl, by decide⟩
theorem fb_1_1 : FB 1 1 1 "DrawerGloves$Chances" "upper" "J" := ⟨_, _, _, rfl, inX1, by decide, rfl, rfl, rfl, rfl, by decide⟩
theorem fp_1_1 : FP 1 1 1 "DrawerGloves$Chances" "upper" "J" := ⟨_, _, _, tyX1, rfl, inX1, by decide, rfl, rfl, rfl, rfl, by decide, tyX1_ok, nmX1, rfl, by decide +kernel, rfl⟩
theorem fb_1_2 : FB 1 2 1 "DrawerGloves$Chances" "lower" "J" := ⟨_, _, _, rfl, inX1, by decide, rfl, rfl, rfl, rfl, by decide⟩
theorem fp_1_2 : FP 1 2 1 "DrawerGloves$Chances" "lower" "J" := ⟨_, _, _, tyX1, rfl, inX1, by decide, rfl, rfl, rfl, rfl, by decide, tyX1_ok, nmX1, rfl, by decide +kernel, rfl⟩
theorem inX2 : ∀ w ∈ u_ws RX2 TX2 2, w ∈ gtbl := List.forall_mem_cons.mpr ⟨m_1_98, List.forall_mem_cons.mpr ⟨m_1_100, fun w h => absurd h List.not_mem_nil⟩⟩
theorem fb_2_0 : FB 2 0 2 "DrawerGloves$Deeds" "codes" "[I" := ⟨_, _, _, rfl, inX2, by decide, rfl, rfl, rfl, rfl, by decide⟩
theorem fb_2_1 : FB 2 1 0 "DrawerGloves$Deeds" "size" "I" := ⟨_, _, _, rfl, inX2, by decide, rfl, rfl, rfl, rfl, by decide⟩
theorem fp_2_1 : FP 2 1 0 "DrawerGloves$Deeds" "size" "I" := ⟨_, _, _, tyX2, rfl, inX2, by decide, rfl, rfl, rfl, rfl, by decide, tyX2_ok, nmX2, rfl, by decide +kernel, rfl⟩
theorem inX3 : ∀ w ∈ u_ws RX3 TX3 4, w ∈ gtbl := List.forall_mem_cons.mpr ⟨m_1_159, List.forall_mem_cons.mpr ⟨m_1_161, List.forall_mem_cons.mpr ⟨m_1_163, List.forall_mem_cons.mpr ⟨m_1_165, fun w h => absurd h List.not_mem_nil⟩⟩⟩⟩
theorem fb_3_0 : FB 3 0 2 "DrawerGloves$Drawer" "gloves" "[LDrawerGloves$Glove;" := ⟨_, _, _, rfl, inX3, by decide, rfl, rfl, rfl, rfl, by decide⟩
theorem fb_3_1 : FB 3 1 2 "DrawerGloves$Drawer" "deeds" "LDrawerGloves$Deeds;" := ⟨_, _, _, rfl, inX3, by decide, rfl, rfl, rfl, rfl, by decide⟩
theorem fb_3_2 : FB 3 2 0 "DrawerGloves$Drawer" "size" "I" := ⟨_, _, _, rfl, inX3, by decide, rfl, rfl, rfl, rfl, by decide⟩
theorem fp_3_2 : FP 3 2 0 "DrawerGloves$Drawer" "size" "I" := ⟨_, _, _, tyX3, rfl, inX3, by decide, rfl, rfl, rfl, rfl, by decide, tyX3_ok, nmX3, rfl, by decide +kernel, rfl⟩
theorem fb_3_3 : FB 3 3 0 "DrawerGloves$Drawer" "room" "I" := ⟨_, _, _, rfl, inX3, by decide, rfl, rfl, rfl, rfl, by decide⟩
theorem fp_3_3 : FP 3 3 0 "DrawerGloves$Drawer" "room" "I" := ⟨_, _, _, tyX3, rfl, inX3, by decide, rfl, rfl, rfl, rfl, by decide, tyX3_ok, nmX3, rfl, by decide +kernel, rfl⟩
theorem inX4 : ∀ w ∈ u_ws RX4 TX4 6, w ∈ gtbl := List.forall_mem_cons.mpr ⟨m_1_129, List.forall_mem_cons.mpr ⟨m_1_131, List.forall_mem_cons.mpr ⟨m_1_133, List.forall_mem_cons.mpr ⟨m_1_135, List.forall_mem_cons.mpr ⟨m_1_137, List.forall_mem_cons.mpr ⟨m_1_139, fun w h => absurd h List.not_mem_nil⟩⟩⟩⟩⟩⟩
theorem fb_4_0 : FB 4 0 0 "DrawerGloves$Glove" "kind" "I" := ⟨_, _, _, rfl, inX4, by decide, rfl, rfl, rfl, rfl, by decide⟩
theorem fp_4_0 : FP 4 0 0 "DrawerGloves$Glove" "kind" "I" := ⟨_, _, _, tyX4, rfl, inX4, by decide, rfl, rfl, rfl, rfl, by decide, tyX4_ok, nmX4, rfl, by decide +kernel, rfl⟩
theorem fb_4_1 : FB 4 1 0 "DrawerGloves$Glove" "sort" "I" := ⟨_, _, _, rfl, inX4, by decide, rfl, rfl, rfl, rfl, by decide⟩
theorem fp_4_1 : FP 4 1 0 "DrawerGloves$Glove" "sort" "I" := ⟨_, _, _, tyX4, rfl, inX4, by decide, rfl, rfl, rfl, rfl, by decide, tyX4_ok, nmX4, rfl, by decide +kernel, rfl⟩
theorem fb_4_2 : FB 4 2 0 "DrawerGloves$Glove" "hand" "I" := ⟨_, _, _, rfl, inX4, by decide, rfl, rfl, rfl, rfl, by decide⟩
theorem fp_4_2 : FP 4 2 0 "DrawerGloves$Glove" "hand" "I" := ⟨_, _, _, tyX4, rfl, inX4, by decide, rfl, rfl, rfl, rfl, by decide, tyX4_ok, nmX4, rfl, by decide +kernel, rfl⟩
theorem fb_4_3 : FB 4 3 0 "DrawerGloves$Glove" "warm" "I" := ⟨_, _, _, rfl, inX4, by decide, rfl, rfl, rfl, rfl, by decide⟩
theorem fp_4_3 : FP 4 3 0 "DrawerGloves$Glove" "warm" "I" := ⟨_, _, _, tyX4, rfl, inX4, by decide, rfl, rfl, rfl, rfl, by decide, tyX4_ok, nmX4, rfl, by decide +kernel, rfl⟩
theorem fb_4_4 : FB 4 4 0 "DrawerGloves$Glove" "wear" "I" := ⟨_, _, _, rfl, inX4, by decide, rfl, rfl, rfl, rfl, by decide⟩
theorem fp_4_4 : FP 4 4 0 "DrawerGloves$Glove" "wear" "I" := ⟨_, _, _, tyX4, rfl, inX4, by decide, rfl, rfl, rfl, rfl, by decide, tyX4_ok, nmX4, rfl, by decide +kernel, rfl⟩
theorem fb_4_5 : FB 4 5 0 "DrawerGloves$Glove" "where" "I" := ⟨_, _, _, rfl, inX4, by decide, rfl, rfl, rfl, rfl, by decide⟩
theorem fp_4_5 : FP 4 5 0 "DrawerGloves$Glove" "where" "I" := ⟨_, _, _, tyX4, rfl, inX4, by decide, rfl, rfl, rfl, rfl, by decide, tyX4_ok, nmX4, rfl, by decide +kernel, rfl⟩
theorem inX5 : ∀ w ∈ u_ws RX5 TX5 2, w ∈ gtbl := List.forall_mem_cons.mpr ⟨m_1_234, List.forall_mem_cons.mpr ⟨m_1_236, fun w h => absurd h List.not_mem_nil⟩⟩
theorem fb_5_0 : FB 5 0 2 "DrawerGloves$Guess" "maybe" "LDrawerGloves$Glove;" := ⟨_, _, _, rfl, inX5, by decide, rfl, rfl, rfl, rfl, by decide⟩
theorem fb_5_1 : FB 5 1 2 "DrawerGloves$Guess" "outcome" "[I" := ⟨_, _, _, rfl, inX5, by decide, rfl, rfl, rfl, rfl, by decide⟩
theorem inX6 : ∀ w ∈ u_ws RX6 TX6 4, w ∈ gtbl := List.forall_mem_cons.mpr ⟨m_1_185, List.forall_mem_cons.mpr ⟨m_1_187, List.forall_mem_cons.mpr ⟨m_1_189, List.forall_mem_cons.mpr ⟨m_1_191, fun w h => absurd h List.not_mem_nil⟩⟩⟩⟩
theorem fb_6_0 : FB 6 0 2 "DrawerGloves$Makings" "worth" "[I" := ⟨_, _, _, rfl, inX6, by decide, rfl, rfl, rfl, rfl, by decide⟩
theorem fb_6_1 : FB 6 1 2 "DrawerGloves$Makings" "best" "[I" := ⟨_, _, _, rfl, inX6, by decide, rfl, rfl, rfl, rfl, by decide⟩
theorem fb_6_2 : FB 6 2 2 "DrawerGloves$Makings" "most" "[I" := ⟨_, _, _, rfl, inX6, by decide, rfl, rfl, rfl, rfl, by decide⟩
theorem fb_6_3 : FB 6 3 2 "DrawerGloves$Makings" "enough" "[I" := ⟨_, _, _, rfl, inX6, by decide, rfl, rfl, rfl, rfl, by decide⟩
theorem inX7 : ∀ w ∈ u_ws RX7 TX7 6, w ∈ gtbl := List.forall_mem_cons.mpr ⟨m_1_66, List.forall_mem_cons.mpr ⟨m_1_68, List.forall_mem_cons.mpr ⟨m_1_70, List.forall_mem_cons.mpr ⟨m_1_72, List.forall_mem_cons.mpr ⟨m_1_74, List.forall_mem_cons.mpr ⟨m_1_76, fun w h => absurd h List.not_mem_nil⟩⟩⟩⟩⟩⟩
theorem fb_7_0 : FB 7 0 2 "DrawerGloves$Reading" "kind" "[I" := ⟨_, _, _, rfl, inX7, by decide, rfl, rfl, rfl, rfl, by decide⟩
theorem fb_7_1 : FB 7 1 2 "DrawerGloves$Reading" "sort" "[I" := ⟨_, _, _, rfl, inX7, by decide, rfl, rfl, rfl, rfl, by decide⟩
theorem fb_7_2 : FB 7 2 2 "DrawerGloves$Reading" "hand" "[I" := ⟨_, _, _, rfl, inX7, by decide, rfl, rfl, rfl, rfl, by decide⟩
theorem fb_7_3 : FB 7 3 2 "DrawerGloves$Reading" "warm" "[I" := ⟨_, _, _, rfl, inX7, by decide, rfl, rfl, rfl, rfl, by decide⟩
theorem fb_7_4 : FB 7 4 0 "DrawerGloves$Reading" "size" "I" := ⟨_, _, _, rfl, inX7, by decide, rfl, rfl, rfl, rfl, by decide⟩
theorem fp_7_4 : FP 7 4 0 "DrawerGloves$Reading" "size" "I" := ⟨_, _, _, tyX7, rfl, inX7, by decide, rfl, rfl, rfl, rfl, by decide, tyX7_ok, nmX7, rfl, by decide +kernel, rfl⟩
theorem fb_7_5 : FB 7 5 0 "DrawerGloves$Reading" "room" "I" := ⟨_, _, _, rfl, inX7, by decide, rfl, rfl, rfl, rfl, by decide⟩
theorem fp_7_5 : FP 7 5 0 "DrawerGloves$Reading" "room" "I" := ⟨_, _, _, tyX7, rfl, inX7, by decide, rfl, rfl, rfl, rfl, by decide, tyX7_ok, nmX7, rfl, by decide +kernel, rfl⟩
theorem inX8 : ∀ w ∈ u_ws RX8 TX8 2, w ∈ gtbl := List.forall_mem_cons.mpr ⟨m_2_7, List.forall_mem_cons.mpr ⟨m_2_9, fun w h => absurd h List.not_mem_nil⟩⟩
theorem fb_8_0 : FB 8 0 2 "DrawerGloves$Rivals" "known" "[I" := ⟨_, _, _, rfl, inX8, by decide, rfl, rfl, rfl, rfl, by decide⟩
theorem fb_8_1 : FB 8 1 2 "DrawerGloves$Rivals" "inThrees" "[I" := ⟨_, _, _, rfl, inX8, by decide, rfl, rfl, rfl, rfl, by decide⟩
theorem inX9 : ∀ w ∈ u_ws RX9 TX9 4, w ∈ gtbl := List.forall_mem_cons.mpr ⟨m_1_38, List.forall_mem_cons.mpr ⟨m_1_40, List.forall_mem_cons.mpr ⟨m_1_42, List.forall_mem_cons.mpr ⟨m_1_44, fun w h => absurd h List.not_mem_nil⟩⟩⟩⟩
theorem fb_9_0 : FB 9 0 2 "DrawerGloves$Rows" "places" "[[I" := ⟨_, _, _, rfl, inX9, by decide, rfl, rfl, rfl, rfl, by decide⟩
theorem fb_9_1 : FB 9 1 2 "DrawerGloves$Rows" "sizes" "[I" := ⟨_, _, _, rfl, inX9, by decide, rfl, rfl, rfl, rfl, by decide⟩
theorem fb_9_2 : FB 9 2 0 "DrawerGloves$Rows" "mostPlaces" "I" := ⟨_, _, _, rfl, inX9, by decide, rfl, rfl, rfl, rfl, by decide⟩
theorem fb_9_3 : FB 9 3 0 "DrawerGloves$Rows" "filler" "I" := ⟨_, _, _, rfl, inX9, by decide, rfl, rfl, rfl, rfl, by decide⟩
theorem inX10 : ∀ w ∈ u_ws RX10 TX10 13, w ∈ gtbl := List.forall_mem_cons.mpr ⟨m_2_43, List.forall_mem_cons.mpr ⟨m_2_45, List.forall_mem_cons.mpr ⟨m_2_47, List.forall_mem_cons.mpr ⟨m_2_49, List.forall_mem_cons.mpr ⟨m_2_51, List.forall_mem_cons.mpr ⟨m_2_53, List.forall_mem_cons.mpr ⟨m_2_55, List.forall_mem_cons.mpr ⟨m_2_57, List.forall_mem_cons.mpr ⟨m_2_59, List.forall_mem_cons.mpr ⟨m_2_61, List.forall_mem_cons.mpr ⟨m_2_63, List.forall_mem_cons.mpr ⟨m_2_65, List.forall_mem_cons.mpr ⟨m_2_67, fun w h => absurd h List.not_mem_nil⟩⟩⟩⟩⟩⟩⟩⟩⟩⟩⟩⟩⟩
theorem fb_10_0 : FB 10 0 2 "DrawerGloves" "rows" "LDrawerGloves$Rows;" := ⟨_, _, _, rfl, inX10, by decide, rfl, rfl, rfl, rfl, by decide⟩
theorem fb_10_1 : FB 10 1 2 "DrawerGloves" "texts" "LDrawerGloves$Rows;" := ⟨_, _, _, rfl, inX10, by decide, rfl, rfl, rfl, rfl, by decide⟩
theorem fb_10_2 : FB 10 2 2 "DrawerGloves" "reading" "LDrawerGloves$Reading;" := ⟨_, _, _, rfl, inX10, by decide, rfl, rfl, rfl, rfl, by decide⟩
theorem fb_10_3 : FB 10 3 2 "DrawerGloves" "chest" "LDrawerGloves$Drawer;" := ⟨_, _, _, rfl, inX10, by decide, rfl, rfl, rfl, rfl, by decide⟩
theorem fb_10_4 : FB 10 4 2 "DrawerGloves" "kept" "[LDrawerGloves$Deeds;" := ⟨_, _, _, rfl, inX10, by decide, rfl, rfl, rfl, rfl, by decide⟩
theorem fb_10_5 : FB 10 5 2 "DrawerGloves" "makings" "LDrawerGloves$Makings;" := ⟨_, _, _, rfl, inX10, by decide, rfl, rfl, rfl, rfl, by decide⟩
theorem fb_10_6 : FB 10 6 2 "DrawerGloves" "calendar" "LDrawerGloves$Calendar;" := ⟨_, _, _, rfl, inX10, by decide, rfl, rfl, rfl, rfl, by decide⟩
theorem fb_10_7 : FB 10 7 2 "DrawerGloves" "guess" "LDrawerGloves$Guess;" := ⟨_, _, _, rfl, inX10, by decide, rfl, rfl, rfl, rfl, by decide⟩
theorem fb_10_8 : FB 10 8 2 "DrawerGloves" "rivals" "LDrawerGloves$Rivals;" := ⟨_, _, _, rfl, inX10, by decide, rfl, rfl, rfl, rfl, by decide⟩
theorem fb_10_9 : FB 10 9 2 "DrawerGloves" "chances" "LDrawerGloves$Chances;" := ⟨_, _, _, rfl, inX10, by decide, rfl, rfl, rfl, rfl, by decide⟩
theorem fb_10_10 : FB 10 10 2 "DrawerGloves" "found" "[I" := ⟨_, _, _, rfl, inX10, by decide, rfl, rfl, rfl, rfl, by decide⟩
theorem fb_10_11 : FB 10 11 0 "DrawerGloves" "lastFound" "I" := ⟨_, _, _, rfl, inX10, by decide, rfl, rfl, rfl, rfl, by decide⟩
theorem fp_10_11 : FP 10 11 0 "DrawerGloves" "lastFound" "I" := ⟨_, _, _, tyX10, rfl, inX10, by decide, rfl, rfl, rfl, rfl, by decide, tyX10_ok, nmX10, rfl, by decide +kernel, rfl⟩
theorem fb_10_12 : FB 10 12 0 "DrawerGloves" "lastAsked" "I" := ⟨_, _, _, rfl, inX10, by decide, rfl, rfl, rfl, rfl, by decide⟩
theorem fp_10_12 : FP 10 12 0 "DrawerGloves" "lastAsked" "I" := ⟨_, _, _, tyX10, rfl, inX10, by decide, rfl, rfl, rfl, rfl, by decide, tyX10_ok, nmX10, rfl, by decide +kernel, rfl⟩
theorem kd_cases (p : Nat → Bool) (h : (List.range nT).all p = true) (h99 : ∀ a, nT ≤ a → p a = true) (a : Nat) : p a = true := by
  rcases Nat.lt_or_ge a nT with q | q
  · exact List.all_eq_true.mp h a (List.mem_range.mpr q)
  · exact h99 a q
theorem kd_big {a : Nat} (h : nT ≤ a) : kd a = 99 := by
  unfold kd
  rw [List.getD_eq_getElem?_getD, List.getElem?_eq_none (show kdL.length ≤ a from h)]
  rfl
theorem kdf_0_0 {a : Nat} (h : kd a = 0) : kd (rf a 0) = 3 := by
  have h2 := kd_cases (fun a => (kd a != 0) || (kd (rf a 0) == 3)) (by decide +kernel) (fun a q => by simp [kd_big q]) a
  simp only [h, bne_self_eq_false, Bool.false_or, beq_iff_eq] at h2
  exact h2
theorem kdf_0_1 {a : Nat} (h : kd a = 0) : kd (rf a 1) = 20 := by
  have h2 := kd_cases (fun a => (kd a != 0) || (kd (rf a 1) == 20)) (by decide +kernel) (fun a q => by simp [kd_big q]) a
  simp only [h, bne_self_eq_false, Bool.false_or, beq_iff_eq] at h2
  exact h2
theorem lnf_0_1 {a : Nat} (h : kd a = 0) : ln (rf a 1) = 64 := by
  have h2 := kd_cases (fun a => (kd a != 0) || (ln (rf a 1) == 64)) (by decide +kernel) (fun a q => by simp [kd_big q]) a
  simp only [h, bne_self_eq_false, Bool.false_or, beq_iff_eq] at h2
  exact h2
theorem kdf_0_2 {a : Nat} (h : kd a = 0) : kd (rf a 2) = 20 := by
  have h2 := kd_cases (fun a => (kd a != 0) || (kd (rf a 2) == 20)) (by decide +kernel) (fun a q => by simp [kd_big q]) a
  simp only [h, bne_self_eq_false, Bool.false_or, beq_iff_eq] at h2
  exact h2
theorem lnf_0_2 {a : Nat} (h : kd a = 0) : ln (rf a 2) = 3 := by
  have h2 := kd_cases (fun a => (kd a != 0) || (ln (rf a 2) == 3)) (by decide +kernel) (fun a q => by simp [kd_big q]) a
  simp only [h, bne_self_eq_false, Bool.false_or, beq_iff_eq] at h2
  exact h2
theorem kdf_0_3 {a : Nat} (h : kd a = 0) : kd (rf a 3) = 20 := by
  have h2 := kd_cases (fun a => (kd a != 0) || (kd (rf a 3) == 20)) (by decide +kernel) (fun a q => by simp [kd_big q]) a
  simp only [h, bne_self_eq_false, Bool.false_or, beq_iff_eq] at h2
  exact h2
theorem lnf_0_3 {a : Nat} (h : kd a = 0) : ln (rf a 3) = 3 := by
  have h2 := kd_cases (fun a => (kd a != 0) || (ln (rf a 3) == 3)) (by decide +kernel) (fun a q => by simp [kd_big q]) a
  simp only [h, bne_self_eq_false, Bool.false_or, beq_iff_eq] at h2
  exact h2
theorem kdf_1_0 {a : Nat} (h : kd a = 1) : kd (rf a 0) = 20 := by
  have h2 := kd_cases (fun a => (kd a != 1) || (kd (rf a 0) == 20)) (by decide +kernel) (fun a q => by simp [kd_big q]) a
  simp only [h, bne_self_eq_false, Bool.false_or, beq_iff_eq] at h2
  exact h2
theorem lnf_1_0 {a : Nat} (h : kd a = 1) : ln (rf a 0) = 8 := by
  have h2 := kd_cases (fun a => (kd a != 1) || (ln (rf a 0) == 8)) (by decide +kernel) (fun a q => by simp [kd_big q]) a
  simp only [h, bne_self_eq_false, Bool.false_or, beq_iff_eq] at h2
  exact h2
theorem kdf_2_0 {a : Nat} (h : kd a = 2) : kd (rf a 0) = 20 := by
  have h2 := kd_cases (fun a => (kd a != 2) || (kd (rf a 0) == 20)) (by decide +kernel) (fun a q => by simp [kd_big q]) a
  simp only [h, bne_self_eq_false, Bool.false_or, beq_iff_eq] at h2
  exact h2
theorem lnf_2_0 {a : Nat} (h : kd a = 2) : ln (rf a 0) = 40 := by
  have h2 := kd_cases (fun a => (kd a != 2) || (ln (rf a 0) == 40)) (by decide +kernel) (fun a q => by simp [kd_big q]) a
  simp only [h, bne_self_eq_false, Bool.false_or, beq_iff_eq] at h2
  exact h2
theorem kdf_3_0 {a : Nat} (h : kd a = 3) : kd (rf a 0) = 23 := by
  have h2 := kd_cases (fun a => (kd a != 3) || (kd (rf a 0) == 23)) (by decide +kernel) (fun a q => by simp [kd_big q]) a
  simp only [h, bne_self_eq_false, Bool.false_or, beq_iff_eq] at h2
  exact h2
theorem lnf_3_0 {a : Nat} (h : kd a = 3) : ln (rf a 0) = 8 := by
  have h2 := kd_cases (fun a => (kd a != 3) || (ln (rf a 0) == 8)) (by decide +kernel) (fun a q => by simp [kd_big q]) a
  simp only [h, bne_self_eq_false, Bool.false_or, beq_iff_eq] at h2
  exact h2
theorem kdf_3_1 {a : Nat} (h : kd a = 3) : kd (rf a 1) = 2 := by
  have h2 := kd_cases (fun a => (kd a != 3) || (kd (rf a 1) == 2)) (by decide +kernel) (fun a q => by simp [kd_big q]) a
  simp only [h, bne_self_eq_false, Bool.false_or, beq_iff_eq] at h2
  exact h2
theorem kdf_5_0 {a : Nat} (h : kd a = 5) : kd (rf a 0) = 4 := by
  have h2 := kd_cases (fun a => (kd a != 5) || (kd (rf a 0) == 4)) (by decide +kernel) (fun a q => by simp [kd_big q]) a
  simp only [h, bne_self_eq_false, Bool.false_or, beq_iff_eq] at h2
  exact h2
theorem kdf_5_1 {a : Nat} (h : kd a = 5) : kd (rf a 1) = 20 := by
  have h2 := kd_cases (fun a => (kd a != 5) || (kd (rf a 1) == 20)) (by decide +kernel) (fun a q => by simp [kd_big q]) a
  simp only [h, bne_self_eq_false, Bool.false_or, beq_iff_eq] at h2
  exact h2
theorem lnf_5_1 {a : Nat} (h : kd a = 5) : ln (rf a 1) = 6 := by
  have h2 := kd_cases (fun a => (kd a != 5) || (ln (rf a 1) == 6)) (by decide +kernel) (fun a q => by simp [kd_big q]) a
  simp only [h, bne_self_eq_false, Bool.false_or, beq_iff_eq] at h2
  exact h2
theorem kdf_6_0 {a : Nat} (h : kd a = 6) : kd (rf a 0) = 20 := by
  have h2 := kd_cases (fun a => (kd a != 6) || (kd (rf a 0) == 20)) (by decide +kernel) (fun a q => by simp [kd_big q]) a
  simp only [h, bne_self_eq_false, Bool.false_or, beq_iff_eq] at h2
  exact h2
theorem lnf_6_0 {a : Nat} (h : kd a = 6) : ln (rf a 0) = 64 := by
  have h2 := kd_cases (fun a => (kd a != 6) || (ln (rf a 0) == 64)) (by decide +kernel) (fun a q => by simp [kd_big q]) a
  simp only [h, bne_self_eq_false, Bool.false_or, beq_iff_eq] at h2
  exact h2
theorem kdf_6_1 {a : Nat} (h : kd a = 6) : kd (rf a 1) = 20 := by
  have h2 := kd_cases (fun a => (kd a != 6) || (kd (rf a 1) == 20)) (by decide +kernel) (fun a q => by simp [kd_big q]) a
  simp only [h, bne_self_eq_false, Bool.false_or, beq_iff_eq] at h2
  exact h2
theorem lnf_6_1 {a : Nat} (h : kd a = 6) : ln (rf a 1) = 256 := by
  have h2 := kd_cases (fun a => (kd a != 6) || (ln (rf a 1) == 256)) (by decide +kernel) (fun a q => by simp [kd_big q]) a
  simp only [h, bne_self_eq_false, Bool.false_or, beq_iff_eq] at h2
  exact h2
theorem kdf_6_2 {a : Nat} (h : kd a = 6) : kd (rf a 2) = 20 := by
  have h2 := kd_cases (fun a => (kd a != 6) || (kd (rf a 2) == 20)) (by decide +kernel) (fun a q => by simp [kd_big q]) a
  simp only [h, bne_self_eq_false, Bool.false_or, beq_iff_eq] at h2
  exact h2
theorem lnf_6_2 {a : Nat} (h : kd a = 6) : ln (rf a 2) = 256 := by
  have h2 := kd_cases (fun a => (kd a != 6) || (ln (rf a 2) == 256)) (by decide +kernel) (fun a q => by simp [kd_big q]) a
  simp only [h, bne_self_eq_false, Bool.false_or, beq_iff_eq] at h2
  exact h2
theorem kdf_6_3 {a : Nat} (h : kd a = 6) : kd (rf a 3) = 20 := by
  have h2 := kd_cases (fun a => (kd a != 6) || (kd (rf a 3) == 20)) (by decide +kernel) (fun a q => by simp [kd_big q]) a
  simp only [h, bne_self_eq_false, Bool.false_or, beq_iff_eq] at h2
  exact h2
theorem lnf_6_3 {a : Nat} (h : kd a = 6) : ln (rf a 3) = 256 := by
  have h2 := kd_cases (fun a => (kd a != 6) || (ln (rf a 3) == 256)) (by decide +kernel) (fun a q => by simp [kd_big q]) a
  simp only [h, bne_self_eq_false, Bool.false_or, beq_iff_eq] at h2
  exact h2
theorem kdf_7_0 {a : Nat} (h : kd a = 7) : kd (rf a 0) = 20 := by
  have h2 := kd_cases (fun a => (kd a != 7) || (kd (rf a 0) == 20)) (by decide +kernel) (fun a q => by simp [kd_big q]) a
  simp only [h, bne_self_eq_false, Bool.false_or, beq_iff_eq] at h2
  exact h2
theorem lnf_7_0 {a : Nat} (h : kd a = 7) : ln (rf a 0) = 8 := by
  have h2 := kd_cases (fun a => (kd a != 7) || (ln (rf a 0) == 8)) (by decide +kernel) (fun a q => by simp [kd_big q]) a
  simp only [h, bne_self_eq_false, Bool.false_or, beq_iff_eq] at h2
  exact h2
theorem kdf_7_1 {a : Nat} (h : kd a = 7) : kd (rf a 1) = 20 := by
  have h2 := kd_cases (fun a => (kd a != 7) || (kd (rf a 1) == 20)) (by decide +kernel) (fun a q => by simp [kd_big q]) a
  simp only [h, bne_self_eq_false, Bool.false_or, beq_iff_eq] at h2
  exact h2
theorem lnf_7_1 {a : Nat} (h : kd a = 7) : ln (rf a 1) = 8 := by
  have h2 := kd_cases (fun a => (kd a != 7) || (ln (rf a 1) == 8)) (by decide +kernel) (fun a q => by simp [kd_big q]) a
  simp only [h, bne_self_eq_false, Bool.false_or, beq_iff_eq] at h2
  exact h2
theorem kdf_7_2 {a : Nat} (h : kd a = 7) : kd (rf a 2) = 20 := by
  have h2 := kd_cases (fun a => (kd a != 7) || (kd (rf a 2) == 20)) (by decide +kernel) (fun a q => by simp [kd_big q]) a
  simp only [h, bne_self_eq_false, Bool.false_or, beq_iff_eq] at h2
  exact h2
theorem lnf_7_2 {a : Nat} (h : kd a = 7) : ln (rf a 2) = 8 := by
  have h2 := kd_cases (fun a => (kd a != 7) || (ln (rf a 2) == 8)) (by decide +kernel) (fun a q => by simp [kd_big q]) a
  simp only [h, bne_self_eq_false, Bool.false_or, beq_iff_eq] at h2
  exact h2
theorem kdf_7_3 {a : Nat} (h : kd a = 7) : kd (rf a 3) = 20 := by
  have h2 := kd_cases (fun a => (kd a != 7) || (kd (rf a 3) == 20)) (by decide +kernel) (fun a q => by simp [kd_big q]) a
  simp only [h, bne_self_eq_false, Bool.false_or, beq_iff_eq] at h2
  exact h2
theorem lnf_7_3 {a : Nat} (h : kd a = 7) : ln (rf a 3) = 8 := by
  have h2 := kd_cases (fun a => (kd a != 7) || (ln (rf a 3) == 8)) (by decide +kernel) (fun a q => by simp [kd_big q]) a
  simp only [h, bne_self_eq_false, Bool.false_or, beq_iff_eq] at h2
  exact h2
theorem kdf_8_0 {a : Nat} (h : kd a = 8) : kd (rf a 0) = 20 := by
  have h2 := kd_cases (fun a => (kd a != 8) || (kd (rf a 0) == 20)) (by decide +kernel) (fun a q => by simp [kd_big q]) a
  simp only [h, bne_self_eq_false, Bool.false_or, beq_iff_eq] at h2
  exact h2
theorem lnf_8_0 {a : Nat} (h : kd a = 8) : ln (rf a 0) = 6561 := by
  have h2 := kd_cases (fun a => (kd a != 8) || (ln (rf a 0) == 6561)) (by decide +kernel) (fun a q => by simp [kd_big q]) a
  simp only [h, bne_self_eq_false, Bool.false_or, beq_iff_eq] at h2
  exact h2
theorem kdf_8_1 {a : Nat} (h : kd a = 8) : kd (rf a 1) = 20 := by
  have h2 := kd_cases (fun a => (kd a != 8) || (kd (rf a 1) == 20)) (by decide +kernel) (fun a q => by simp [kd_big q]) a
  simp only [h, bne_self_eq_false, Bool.false_or, beq_iff_eq] at h2
  exact h2
theorem lnf_8_1 {a : Nat} (h : kd a = 8) : ln (rf a 1) = 256 := by
  have h2 := kd_cases (fun a => (kd a != 8) || (ln (rf a 1) == 256)) (by decide +kernel) (fun a q => by simp [kd_big q]) a
  simp only [h, bne_self_eq_false, Bool.false_or, beq_iff_eq] at h2
  exact h2
theorem kdf_9_0 {a : Nat} (h : kd a = 9) : kd (rf a 0) = 24 := by
  have h2 := kd_cases (fun a => (kd a != 9) || (kd (rf a 0) == 24)) (by decide +kernel) (fun a q => by simp [kd_big q]) a
  simp only [h, bne_self_eq_false, Bool.false_or, beq_iff_eq] at h2
  exact h2
theorem kdf_9_1 {a : Nat} (h : kd a = 9) : kd (rf a 1) = 20 := by
  have h2 := kd_cases (fun a => (kd a != 9) || (kd (rf a 1) == 20)) (by decide +kernel) (fun a q => by simp [kd_big q]) a
  simp only [h, bne_self_eq_false, Bool.false_or, beq_iff_eq] at h2
  exact h2
theorem kdf_10_0 {a : Nat} (h : kd a = 10) : kd (rf a 0) = 9 := by
  have h2 := kd_cases (fun a => (kd a != 10) || (kd (rf a 0) == 9)) (by decide +kernel) (fun a q => by simp [kd_big q]) a
  simp only [h, bne_self_eq_false, Bool.false_or, beq_iff_eq] at h2
  exact h2
theorem kdf_10_1 {a : Nat} (h : kd a = 10) : kd (rf a 1) = 9 := by
  have h2 := kd_cases (fun a => (kd a != 10) || (kd (rf a 1) == 9)) (by decide +kernel) (fun a q => by simp [kd_big q]) a
  simp only [h, bne_self_eq_false, Bool.false_or, beq_iff_eq] at h2
  exact h2
theorem kdf_10_2 {a : Nat} (h : kd a = 10) : kd (rf a 2) = 7 := by
  have h2 := kd_cases (fun a => (kd a != 10) || (kd (rf a 2) == 7)) (by decide +kernel) (fun a q => by simp [kd_big q]) a
  simp only [h, bne_self_eq_false, Bool.false_or, beq_iff_eq] at h2
  exact h2
theorem kdf_10_3 {a : Nat} (h : kd a = 10) : kd (rf a 3) = 3 := by
  have h2 := kd_cases (fun a => (kd a != 10) || (kd (rf a 3) == 3)) (by decide +kernel) (fun a q => by simp [kd_big q]) a
  simp only [h, bne_self_eq_false, Bool.false_or, beq_iff_eq] at h2
  exact h2
theorem kdf_10_4 {a : Nat} (h : kd a = 10) : kd (rf a 4) = 22 := by
  have h2 := kd_cases (fun a => (kd a != 10) || (kd (rf a 4) == 22)) (by decide +kernel) (fun a q => by simp [kd_big q]) a
  simp only [h, bne_self_eq_false, Bool.false_or, beq_iff_eq] at h2
  exact h2
theorem lnf_10_4 {a : Nat} (h : kd a = 10) : ln (rf a 4) = 3 := by
  have h2 := kd_cases (fun a => (kd a != 10) || (ln (rf a 4) == 3)) (by decide +kernel) (fun a q => by simp [kd_big q]) a
  simp only [h, bne_self_eq_false, Bool.false_or, beq_iff_eq] at h2
  exact h2
theorem kdf_10_5 {a : Nat} (h : kd a = 10) : kd (rf a 5) = 6 := by
  have h2 := kd_cases (fun a => (kd a != 10) || (kd (rf a 5) == 6)) (by decide +kernel) (fun a q => by simp [kd_big q]) a
  simp only [h, bne_self_eq_false, Bool.false_or, beq_iff_eq] at h2
  exact h2
theorem kdf_10_6 {a : Nat} (h : kd a = 10) : kd (rf a 6) = 0 := by
  have h2 := kd_cases (fun a => (kd a != 10) || (kd (rf a 6) == 0)) (by decide +kernel) (fun a q => by simp [kd_big q]) a
  simp only [h, bne_self_eq_false, Bool.false_or, beq_iff_eq] at h2
  exact h2
theorem kdf_10_7 {a : Nat} (h : kd a = 10) : kd (rf a 7) = 5 := by
  have h2 := kd_cases (fun a => (kd a != 10) || (kd (rf a 7) == 5)) (by decide +kernel) (fun a q => by simp [kd_big q]) a
  simp only [h, bne_self_eq_false, Bool.false_or, beq_iff_eq] at h2
  exact h2
theorem kdf_10_8 {a : Nat} (h : kd a = 10) : kd (rf a 8) = 8 := by
  have h2 := kd_cases (fun a => (kd a != 10) || (kd (rf a 8) == 8)) (by decide +kernel) (fun a q => by simp [kd_big q]) a
  simp only [h, bne_self_eq_false, Bool.false_or, beq_iff_eq] at h2
  exact h2
theorem kdf_10_9 {a : Nat} (h : kd a = 10) : kd (rf a 9) = 1 := by
  have h2 := kd_cases (fun a => (kd a != 10) || (kd (rf a 9) == 1)) (by decide +kernel) (fun a q => by simp [kd_big q]) a
  simp only [h, bne_self_eq_false, Bool.false_or, beq_iff_eq] at h2
  exact h2
theorem kdf_10_10 {a : Nat} (h : kd a = 10) : kd (rf a 10) = 20 := by
  have h2 := kd_cases (fun a => (kd a != 10) || (kd (rf a 10) == 20)) (by decide +kernel) (fun a q => by simp [kd_big q]) a
  simp only [h, bne_self_eq_false, Bool.false_or, beq_iff_eq] at h2
  exact h2
theorem lnf_10_10 {a : Nat} (h : kd a = 10) : ln (rf a 10) = 6 := by
  have h2 := kd_cases (fun a => (kd a != 10) || (ln (rf a 10) == 6)) (by decide +kernel) (fun a q => by simp [kd_big q]) a
  simp only [h, bne_self_eq_false, Bool.false_or, beq_iff_eq] at h2
  exact h2
theorem kda_22 {a i : Nat} (h : kd a = 22) (hi : i < ln a) : kd (rf a i) = 2 := by
  have h2 := kd_cases (fun a => (kd a != 22) || (List.range (ln a)).all (fun i => kd (rf a i) == 2)) (by decide +kernel) (fun a q => by simp [kd_big q]) a
  simp only [h, bne_self_eq_false, Bool.false_or] at h2
  exact beq_iff_eq.mp (List.all_eq_true.mp h2 i (List.mem_range.mpr hi))
theorem kda_23 {a i : Nat} (h : kd a = 23) (hi : i < ln a) : kd (rf a i) = 4 := by
  have h2 := kd_cases (fun a => (kd a != 23) || (List.range (ln a)).all (fun i => kd (rf a i) == 4)) (by decide +kernel) (fun a q => by simp [kd_big q]) a
  simp only [h, bne_self_eq_false, Bool.false_or] at h2
  exact beq_iff_eq.mp (List.all_eq_true.mp h2 i (List.mem_range.mpr hi))
theorem kda_24 {a i : Nat} (h : kd a = 24) (hi : i < ln a) : kd (rf a i) = 20 := by
  have h2 := kd_cases (fun a => (kd a != 24) || (List.range (ln a)).all (fun i => kd (rf a i) == 20)) (by decide +kernel) (fun a q => by simp [kd_big q]) a
  simp only [h, bne_self_eq_false, Bool.false_or] at h2
  exact beq_iff_eq.mp (List.all_eq_true.mp h2 i (List.mem_range.mpr hi))
section TOP
variable {G : Glob} {d : Nat} {Y : MY} {pc : Nat} {ls : LL} {st : List Value} {M : Mem} {Q : Option Value → Mem → Prop}
theorem wp_topI {x : Int32} (K : ∀ y : Int32, y = x → Wp G d Y pc ls (.int y :: st) M Q) : Wp G d Y pc ls (.int x :: st) M Q := K x rfl
theorem wp_topJ {x : Int64} (K : ∀ y : Int64, y = x → Wp G d Y pc ls (.long y :: st) M Q) : Wp G d Y pc ls (.long x :: st) M Q := K x rfl
theorem wp_topM (K : ∀ M1 : Mem, M1 = M → Wp G d Y pc ls st M1 Q) : Wp G d Y pc ls st M Q := K M rfl
theorem wp_ldcw {i : Nat} {v : Int32} (hc : Cond.constant Y.1.cls i v ∈ gtbl) (hd : decode Y.2.1 pc = .ok (.ldc_w i, 3)) (K : Wp G d Y (pc + 3) ls (.int v :: st) M Q) : Wp G d Y pc ls st M Q := fun p e s m args below meth c X hr9 hk9 => fr_1 (fun _ _ _ _ k => lv_ldcw X.1 X.2.1 X.2.2.2.1 (X.2.2.2.2.1 _ hc) hd k) (K p e s m args below meth c X hr9 hk9)
end TOP
theorem mw_max : Cond.static Lib.Math.max.name ∈ gtbl ∧ Cond.initialized "java/lang/Math" ∈ gtbl ∧ Cond.code Lib.Math.max.name Lib.Math.max.code 2 (some .int) ∈ gtbl := ⟨m_1_30, m_1_3, m_1_31⟩
theorem mw_min : Cond.static Lib.Math.min.name ∈ gtbl ∧ Cond.initialized "java/lang/Math" ∈ gtbl ∧ Cond.code Lib.Math.min.name Lib.Math.min.code 2 (some .int) ∈ gtbl := ⟨m_2_207, m_1_3, m_2_208⟩
theorem mw_abs : Cond.static Lib.Math.abs.name ∈ gtbl ∧ Cond.initialized "java/lang/Math" ∈ gtbl ∧ Cond.code Lib.Math.abs.name Lib.Math.abs.code 1 (some .int) ∈ gtbl := ⟨m_2_104, m_1_3, m_2_105⟩
theorem mw_acopy : Cond.native arraycopyName ∈ gtbl ∧ Cond.static arraycopyName ∈ gtbl ∧ Cond.initialized "java/lang/System" ∈ gtbl := ⟨m_3_121, m_3_120, m_1_13⟩
def Y_X10_row : MY := (yX10_row, cX10_row, 3, some .int)
theorem cm_X10_row : CMV Y_X10_row 2 10 := ⟨⟨m_3_65, m_1_1, ⟨by decide +kernel, by decide +kernel, by decide +kernel⟩, by decide⟩, m_3_63, m_3_64, ⟨_, _, rfl⟩, by decide⟩
def Y_X10_lay : MY := (yX10_lay, cX10_lay, 6, some .int)
theorem cm_X10_lay : CMV Y_X10_lay 3 10 := ⟨⟨m_3_74, m_1_1, ⟨by decide +kernel, by decide +kernel, by decide +kernel⟩, by decide⟩, m_3_72, m_3_73, ⟨_, _, rfl⟩, by decide⟩
def Y_X10_at : MY := (yX10_at, cX10_at, 4, some .int)
theorem cm_X10_at : CMV Y_X10_at 2 10 := ⟨⟨m_3_97, m_1_1, ⟨by decide +kernel, by decide +kernel, by decide +kernel⟩, by decide⟩, m_3_95, m_3_96, ⟨_, _, rfl⟩, by decide⟩
def Y_X10_tear : MY := (yX10_tear, cX10_tear, 3, some .int)
theorem cm_X10_tear : CMV Y_X10_tear 1 10 := ⟨⟨m_3_101, m_1_1, ⟨by decide +kernel, by decide +kernel, by decide +kernel⟩, by decide⟩, m_3_99, m_3_100, ⟨_, _, rfl⟩, by decide⟩
def Y_X10_copy : MY := (yX10_copy, cX10_copy, 6, some .int)
theorem cm_X10_copy : CMV Y_X10_copy 5 10 := ⟨⟨m_3_109, m_1_1, ⟨by decide +kernel, by decide +kernel, by decide +kernel⟩, by decide⟩, m_3_107, m_3_108, ⟨_, _, rfl⟩, by decide⟩
def Y_X10_mean : MY := (yX10_mean, cX10_mean, 4, some .int)
theorem cm_X10_mean : CMV Y_X10_mean 1 10 := ⟨⟨m_3_125, m_1_1, ⟨by decide +kernel, by decide +kernel, by decide +kernel⟩, by decide⟩, m_3_123, m_3_124, ⟨_, _, rfl⟩, by decide⟩
def Y_X10_text : MY := (yX10_text, cX10_text, 3, some .int)
theorem cm_X10_text : CMV Y_X10_text 2 10 := ⟨⟨m_3_134, m_1_1, ⟨by decide +kernel, by decide +kernel, by decide +kernel⟩, by decide⟩, m_3_132, m_3_133, ⟨_, _, rfl⟩, by decide⟩
def Y_X10_put : MY := (yX10_put, cX10_put, 6, some .int)
theorem cm_X10_put : CMV Y_X10_put 3 10 := ⟨⟨m_3_138, m_1_1, ⟨by decide +kernel, by decide +kernel, by decide +kernel⟩, by decide⟩, m_3_136, m_3_137, ⟨_, _, rfl⟩, by decide⟩
def Y_X10_fault : MY := (yX10_fault, cX10_fault, 3, some .int)
theorem cm_X10_fault : CMV Y_X10_fault 1 10 := ⟨⟨m_3_146, m_1_1, ⟨by decide +kernel, by decide +kernel, by decide +kernel⟩, by decide⟩, m_3_144, m_3_145, ⟨_, _, rfl⟩, by decide⟩
def Y_X10_drawer : MY := (yX10_drawer, cX10_drawer, 4, some .int)
theorem cm_X10_drawer : CMV Y_X10_drawer 1 10 := ⟨⟨m_3_170, m_1_1, ⟨by decide +kernel, by decide +kernel, by decide +kernel⟩, by decide⟩, m_3_168, m_3_169, ⟨_, _, rfl⟩, by decide⟩
def Y_X10_glove : MY := (yX10_glove, cX10_glove, 3, some .int)
theorem cm_X10_glove : CMV Y_X10_glove 2 10 := ⟨⟨m_3_179, m_1_1, ⟨by decide +kernel, by decide +kernel, by decide +kernel⟩, by decide⟩, m_3_177, m_3_178, ⟨_, _, rfl⟩, by decide⟩
def Y_X10_mark : MY := (yX10_mark, cX10_mark, 3, some .int)
theorem cm_X10_mark : CMV Y_X10_mark 2 10 := ⟨⟨m_3_183, m_1_1, ⟨by decide +kernel, by decide +kernel, by decide +kernel⟩, by decide⟩, m_3_181, m_3_182, ⟨_, _, rfl⟩, by decide⟩
def Y_X10_pair : MY := (yX10_pair, cX10_pair, 3, some .int)
theorem cm_X10_pair : CMV Y_X10_pair 2 10 := ⟨⟨m_3_209, m_1_1, ⟨by decide +kernel, by decide +kernel, by decide +kernel⟩, by decide⟩, m_3_207, m_3_208, ⟨_, _, rfl⟩, by decide⟩
def Y_X10_wear : MY := (yX10_wear, cX10_wear, 4, some .int)
theorem cm_X10_wear : CMV Y_X10_wear 2 10 := ⟨⟨m_2_73, m_1_1, ⟨by decide +kernel, by decide +kernel, by decide +kernel⟩, by decide⟩, m_2_71, m_2_72, ⟨_, _, rfl⟩, by decide⟩
def Y_X10_lose : MY := (yX10_lose, cX10_lose, 2, some .int)
theorem cm_X10_lose : CMV Y_X10_lose 1 10 := ⟨⟨m_2_130, m_1_1, ⟨by decide +kernel, by decide +kernel, by decide +kernel⟩, by decide⟩, m_2_128, m_2_129, ⟨_, _, rfl⟩, by decide⟩
def Y_X10_back : MY := (yX10_back, cX10_back, 2, some .int)
theorem cm_X10_back : CMV Y_X10_back 1 10 := ⟨⟨m_3_213, m_1_1, ⟨by decide +kernel, by decide +kernel, by decide +kernel⟩, by decide⟩, m_3_211, m_3_212, ⟨_, _, rfl⟩, by decide⟩
def Y_X10_out : MY := (yX10_out, cX10_out, 2, some .int)
theorem cm_X10_out : CMV Y_X10_out 1 10 := ⟨⟨m_2_153, m_1_1, ⟨by decide +kernel, by decide +kernel, by decide +kernel⟩, by decide⟩, m_2_151, m_2_152, ⟨_, _, rfl⟩, by decide⟩
def Y_X10_undo : MY := (yX10_undo, cX10_undo, 3, some .int)
theorem cm_X10_undo : CMV Y_X10_undo 1 10 := ⟨⟨m_2_157, m_1_1, ⟨by decide +kernel, by decide +kernel, by decide +kernel⟩, by decide⟩, m_2_155, m_2_156, ⟨_, _, rfl⟩, by decide⟩
def Y_X10_keep : MY := (yX10_keep, cX10_keep, 2, some .int)
theorem cm_X10_keep : CMV Y_X10_keep 1 10 := ⟨⟨m_2_165, m_1_1, ⟨by decide +kernel, by decide +kernel, by decide +kernel⟩, by decide⟩, m_2_163, m_2_164, ⟨_, _, rfl⟩, by decide⟩
def Y_X10_on : MY := (yX10_on, cX10_on, 2, some .int)
theorem cm_X10_on : CMV Y_X10_on 1 10 := ⟨⟨m_2_173, m_1_1, ⟨by decide +kernel, by decide +kernel, by decide +kernel⟩, by decide⟩, m_2_171, m_2_172, ⟨_, _, rfl⟩, by decide⟩
def Y_X10_good : MY := (yX10_good, cX10_good, 2, some .int)
theorem cm_X10_good : CMV Y_X10_good 1 10 := ⟨⟨m_3_218, m_1_1, ⟨by decide +kernel, by decide +kernel, by decide +kernel⟩, by decide⟩, m_3_216, m_3_217, ⟨_, _, rfl⟩, by decide⟩
def Y_X10_pairs : MY := (yX10_pairs, cX10_pairs, 2, some .int)
theorem cm_X10_pairs : CMV Y_X10_pairs 1 10 := ⟨⟨m_3_226, m_1_1, ⟨by decide +kernel, by decide +kernel, by decide +kernel⟩, by decide⟩, m_3_224, m_3_225, ⟨_, _, rfl⟩, by decide⟩
def Y_X10_missed : MY := (yX10_missed, cX10_missed, 1, some .int)
theorem cm_X10_missed : CMV Y_X10_missed 0 10 := ⟨⟨m_4_139, m_1_1, ⟨by decide +kernel, by decide +kernel, by decide +kernel⟩, by decide⟩, m_4_137, m_4_138, ⟨_, _, rfl⟩, by decide⟩
def Y_X10_wished : MY := (yX10_wished, cX10_wished, 1, some .int)
theorem cm_X10_wished : CMV Y_X10_wished 0 10 := ⟨⟨m_4_148, m_1_1, ⟨by decide +kernel, by decide +kernel, by decide +kernel⟩, by decide⟩, m_4_146, m_4_147, ⟨_, _, rfl⟩, by decide⟩
def Y_X10_days : MY := (yX10_days, cX10_days, 3, some .int)
theorem cm_X10_days : CMV Y_X10_days 2 10 := ⟨⟨m_4_0, m_1_1, ⟨by decide +kernel, by decide +kernel, by decide +kernel⟩, by decide⟩, m_3_238, m_3_239, ⟨_, _, rfl⟩, by decide⟩
def Y_X10_room : MY := (yX10_room, cX10_room, 2, some .int)
theorem cm_X10_room : CMV Y_X10_room 0 10 := ⟨⟨m_2_181, m_1_1, ⟨by decide +kernel, by decide +kernel, by decide +kernel⟩, by decide⟩, m_2_179, m_2_180, ⟨_, _, rfl⟩, by decide⟩
def Y_X10_join : MY := (yX10_join, cX10_join, 3, some .int)
theorem cm_X10_join : CMV Y_X10_join 2 10 := ⟨⟨m_4_21, m_1_1, ⟨by decide +kernel, by decide +kernel, by decide +kernel⟩, by decide⟩, m_4_19, m_4_20, ⟨_, _, rfl⟩, by decide⟩
def Y_X10_sorts : MY := (yX10_sorts, cX10_sorts, 4, some .int)
theorem cm_X10_sorts : CMV Y_X10_sorts 2 10 := ⟨⟨m_4_25, m_1_1, ⟨by decide +kernel, by decide +kernel, by decide +kernel⟩, by decide⟩, m_4_23, m_4_24, ⟨_, _, rfl⟩, by decide⟩
def Y_X10_hands : MY := (yX10_hands, cX10_hands, 4, some .int)
theorem cm_X10_hands : CMV Y_X10_hands 2 10 := ⟨⟨m_4_48, m_1_1, ⟨by decide +kernel, by decide +kernel, by decide +kernel⟩, by decide⟩, m_4_46, m_4_47, ⟨_, _, rfl⟩, by decide⟩
def Y_X10_kinds : MY := (yX10_kinds, cX10_kinds, 4, some .int)
theorem cm_X10_kinds : CMV Y_X10_kinds 2 10 := ⟨⟨m_4_56, m_1_1, ⟨by decide +kernel, by decide +kernel, by decide +kernel⟩, by decide⟩, m_4_54, m_4_55, ⟨_, _, rfl⟩, by decide⟩
def Y_X10_test : MY := (yX10_test, cX10_test, 6, some .int)
theorem cm_X10_test : CMV Y_X10_test 2 10 := ⟨⟨m_4_64, m_1_1, ⟨by decide +kernel, by decide +kernel, by decide +kernel⟩, by decide⟩, m_4_62, m_4_63, ⟨_, _, rfl⟩, by decide⟩
def Y_X10_duel : MY := (yX10_duel, cX10_duel, 2, some .int)
theorem cm_X10_duel : CMV Y_X10_duel 1 10 := ⟨⟨m_4_82, m_1_1, ⟨by decide +kernel, by decide +kernel, by decide +kernel⟩, by decide⟩, m_4_80, m_4_81, ⟨_, _, rfl⟩, by decide⟩
def Y_X10_odds : MY := (yX10_odds, cX10_odds, 4, some .int)
theorem cm_X10_odds : CMV Y_X10_odds 3 10 := ⟨⟨m_4_96, m_1_1, ⟨by decide +kernel, by decide +kernel, by decide +kernel⟩, by decide⟩, m_4_94, m_4_95, ⟨_, _, rfl⟩, by decide⟩
def Y_X10_mid : MY := (yX10_mid, cX10_mid, 3, some .int)
theorem cm_X10_mid : CMV Y_X10_mid 2 10 := ⟨⟨m_4_125, m_1_1, ⟨by decide +kernel, by decide +kernel, by decide +kernel⟩, by decide⟩, m_4_123, m_4_124, ⟨_, _, rfl⟩, by decide⟩
def Y_X10_lots : MY := (yX10_lots, cX10_lots, 6, some .int)
theorem cm_X10_lots : CMV Y_X10_lots 2 10 := ⟨⟨m_2_213, m_1_1, ⟨by decide +kernel, by decide +kernel, by decide +kernel⟩, by decide⟩, m_2_211, m_2_212, ⟨_, _, rfl⟩, by decide⟩
def Y_X10_asked : MY := (yX10_asked, cX10_asked, 1, some .int)
theorem cm_X10_asked : CMV Y_X10_asked 0 10 := ⟨⟨m_4_155, m_1_1, ⟨by decide +kernel, by decide +kernel, by decide +kernel⟩, by decide⟩, m_4_153, m_4_154, ⟨_, _, rfl⟩, by decide⟩
def Y_X10_upper : MY := (yX10_upper, cX10_upper, 1, some .long)
theorem cm_X10_upper : CMV Y_X10_upper 0 10 := ⟨⟨m_4_159, m_1_1, ⟨by decide +kernel, by decide +kernel, by decide +kernel⟩, by decide⟩, m_4_157, m_4_158, ⟨_, _, rfl⟩, by decide⟩
def Y_X10_lower : MY := (yX10_lower, cX10_lower, 1, some .long)
theorem cm_X10_lower : CMV Y_X10_lower 0 10 := ⟨⟨m_4_163, m_1_1, ⟨by decide +kernel, by decide +kernel, by decide +kernel⟩, by decide⟩, m_4_161, m_4_162, ⟨_, _, rfl⟩, by decide⟩
def Y_X10_count : MY := (yX10_count, cX10_count, 2, some .int)
theorem cm_X10_count : CMV Y_X10_count 1 10 := ⟨⟨m_2_236, m_1_1, ⟨by decide +kernel, by decide +kernel, by decide +kernel⟩, by decide⟩, m_2_234, m_2_235, ⟨_, _, rfl⟩, by decide⟩
def Y_X10_finding : MY := (yX10_finding, cX10_finding, 1, some .int)
theorem cm_X10_finding : CMV Y_X10_finding 0 10 := ⟨⟨m_4_167, m_1_1, ⟨by decide +kernel, by decide +kernel, by decide +kernel⟩, by decide⟩, m_4_165, m_4_166, ⟨_, _, rfl⟩, by decide⟩
def Y_X10_findings : MY := (yX10_findings, cX10_findings, 2, some .int)
theorem cm_X10_findings : CMV Y_X10_findings 1 10 := ⟨⟨m_4_129, m_1_1, ⟨by decide +kernel, by decide +kernel, by decide +kernel⟩, by decide⟩, m_4_127, m_4_128, ⟨_, _, rfl⟩, by decide⟩
def Y_X10_digest : MY := (yX10_digest, cX10_digest, 5, some .long)
theorem cm_X10_digest : CMV Y_X10_digest 0 10 := ⟨⟨m_3_30, m_1_1, ⟨by decide +kernel, by decide +kernel, by decide +kernel⟩, by decide⟩, m_3_28, m_3_29, ⟨_, _, rfl⟩, by decide⟩
def Y_X10_finds : MY := (yX10_finds, cX10_finds, 2, some .int)
theorem cm_X10_finds : CMV Y_X10_finds 1 10 := ⟨⟨m_2_177, m_1_1, ⟨by decide +kernel, by decide +kernel, by decide +kernel⟩, by decide⟩, m_2_176, ms_2, ⟨_, _, rfl⟩, by decide⟩
def Y_X10_tells : MY := (yX10_tells, cX10_tells, 2, some .int)
theorem cm_X10_tells : CMV Y_X10_tells 1 10 := ⟨⟨m_3_93, m_1_1, ⟨by decide +kernel, by decide +kernel, by decide +kernel⟩, by decide⟩, m_3_92, ms_9, ⟨_, _, rfl⟩, by decide⟩
def Y_X10_refusedRow : MY := (yX10_refusedRow, cX10_refusedRow, 2, some .int)
theorem cm_X10_refusedRow : CMV Y_X10_refusedRow 1 10 := ⟨⟨m_3_82, m_1_1, ⟨by decide +kernel, by decide +kernel, by decide +kernel⟩, by decide⟩, m_3_81, ms_8, ⟨_, _, rfl⟩, by decide⟩
def Y_X10_refusedPlace : MY := (yX10_refusedPlace, cX10_refusedPlace, 4, some .int)
theorem cm_X10_refusedPlace : CMV Y_X10_refusedPlace 2 10 := ⟨⟨m_3_78, m_1_1, ⟨by decide +kernel, by decide +kernel, by decide +kernel⟩, by decide⟩, m_3_77, ms_7, ⟨_, _, rfl⟩, by decide⟩
def Y_X10_refusedText : MY := (yX10_refusedText, cX10_refusedText, 2, some .int)
theorem cm_X10_refusedText : CMV Y_X10_refusedText 1 10 := ⟨⟨m_3_142, m_1_1, ⟨by decide +kernel, by decide +kernel, by decide +kernel⟩, by decide⟩, m_3_141, ms_10, ⟨_, _, rfl⟩, by decide⟩
def Y_X10_refusedGuess : MY := (yX10_refusedGuess, cX10_refusedGuess, 4, some .int)
theorem cm_X10_refusedGuess : CMV Y_X10_refusedGuess 2 10 := ⟨⟨m_4_29, m_1_1, ⟨by decide +kernel, by decide +kernel, by decide +kernel⟩, by decide⟩, m_4_28, ms_14, ⟨_, _, rfl⟩, by decide⟩
def Y_X10_greatestChange : MY := (yX10_greatestChange, cX10_greatestChange, 7, some .int)
theorem cm_X10_greatestChange : CMV Y_X10_greatestChange 1 10 := ⟨⟨m_4_143, m_1_1, ⟨by decide +kernel, by decide +kernel, by decide +kernel⟩, by decide⟩, m_4_142, ms_18, ⟨_, _, rfl⟩, by decide⟩
def Y_X10_howManyKept : MY := (yX10_howManyKept, cX10_howManyKept, 3, some .int)
theorem cm_X10_howManyKept : CMV Y_X10_howManyKept 0 10 := ⟨⟨m_3_26, m_1_1, ⟨by decide +kernel, by decide +kernel, by decide +kernel⟩, by decide⟩, m_3_25, ms_6, ⟨_, _, rfl⟩, by decide⟩
def Y_X10_isChance : MY := (yX10_isChance, cX10_isChance, 1, some .boolean)
theorem cm_X10_isChance : CMS Y_X10_isChance 1 := ⟨⟨m_4_99, m_1_1, ⟨by decide +kernel, by decide +kernel, by decide +kernel⟩, by decide⟩, m_4_98⟩
def Y_X0_plan : MY := (yX0_plan, cX0_plan, 6, some .int)
theorem cm_X0_plan : CMV Y_X0_plan 4 0 := ⟨⟨m_4_4, m_1_9, ⟨by decide +kernel, by decide +kernel, by decide +kernel⟩, by decide⟩, m_4_2, m_4_3, ⟨_, _, rfl⟩, by decide⟩
def Y_X0_gather : MY := (yX0_gather, cX0_gather, 5, none)
theorem cm_X0_gather : CMV Y_X0_gather 1 0 := ⟨⟨m_4_8, m_1_9, ⟨by decide +kernel, by decide +kernel, by decide +kernel⟩, by decide⟩, m_4_7, ms_13, ⟨_, _, rfl⟩, by decide⟩
def Y_X0_search : MY := (yX0_search, cX0_search, 8, none)
theorem cm_X0_search : CMS Y_X0_search 4 := ⟨⟨m_4_15, m_1_9, ⟨by decide +kernel, by decide +kernel, by decide +kernel⟩, by decide⟩, m_4_14⟩
def Y_X1_reckon : MY := (yX1_reckon, cX1_reckon, 12, none)
theorem cm_X1_reckon : CMV Y_X1_reckon 4 1 := ⟨⟨m_4_107, m_1_12, ⟨by decide +kernel, by decide +kernel, by decide +kernel⟩, by decide⟩, m_4_105, m_4_106, ⟨_, _, rfl⟩, by decide⟩
def Y_X1_lossOf : MY := (yX1_lossOf, cX1_lossOf, 3, some .int)
theorem cm_X1_lossOf : CMS Y_X1_lossOf 3 := ⟨⟨m_4_111, m_1_12, ⟨by decide +kernel, by decide +kernel, by decide +kernel⟩, by decide⟩, m_4_110⟩
def Y_X1_waysTo : MY := (yX1_waysTo, cX1_waysTo, 7, some .long)
theorem cm_X1_waysTo : CMV Y_X1_waysTo 3 1 := ⟨⟨m_4_118, m_1_12, ⟨by decide +kernel, by decide +kernel, by decide +kernel⟩, by decide⟩, m_4_117, ms_17, ⟨_, _, rfl⟩, by decide⟩
def Y_X1_commonDivisor : MY := (yX1_commonDivisor, cX1_commonDivisor, 7, some .long)
theorem cm_X1_commonDivisor : CMS Y_X1_commonDivisor 2 := ⟨⟨m_4_121, m_1_12, ⟨by decide +kernel, by decide +kernel, by decide +kernel⟩, by decide⟩, m_4_120⟩
def Y_X2_roomLeft : MY := (yX2_roomLeft, cX2_roomLeft, 1, some .int)
theorem cm_X2_roomLeft : CMV Y_X2_roomLeft 0 2 := ⟨⟨m_2_114, m_1_6, ⟨by decide +kernel, by decide +kernel, by decide +kernel⟩, by decide⟩, m_2_112, m_2_113, ⟨_, _, rfl⟩, by decide⟩
def Y_X2_add : MY := (yX2_add, cX2_add, 4, none)
theorem cm_X2_add : CMV Y_X2_add 3 2 := ⟨⟨m_2_122, m_1_6, ⟨by decide +kernel, by decide +kernel, by decide +kernel⟩, by decide⟩, m_2_120, m_2_121, ⟨_, _, rfl⟩, by decide⟩
def Y_X2_becomeLike : MY := (yX2_becomeLike, cX2_becomeLike, 3, none)
theorem cm_X2_becomeLike : CMV Y_X2_becomeLike 1 2 := ⟨⟨m_2_169, m_1_6, ⟨by decide +kernel, by decide +kernel, by decide +kernel⟩, by decide⟩, m_2_167, m_2_168, ⟨_, _, rfl⟩, by decide⟩
def Y_X3_fill : MY := (yX3_fill, cX3_fill, 3, none)
theorem cm_X3_fill : CMV Y_X3_fill 1 3 := ⟨⟨m_3_174, m_1_5, ⟨by decide +kernel, by decide +kernel, by decide +kernel⟩, by decide⟩, m_3_172, m_3_173, ⟨_, _, rfl⟩, by decide⟩
def Y_X3_has : MY := (yX3_has, cX3_has, 2, some .boolean)
theorem cm_X3_has : CMV Y_X3_has 1 3 := ⟨⟨m_2_77, m_1_5, ⟨by decide +kernel, by decide +kernel, by decide +kernel⟩, by decide⟩, m_2_75, m_2_76, ⟨_, _, rfl⟩, by decide⟩
def Y_X3_isSet : MY := (yX3_isSet, cX3_isSet, 2, some .boolean)
theorem cm_X3_isSet : CMV Y_X3_isSet 1 3 := ⟨⟨m_3_222, m_1_5, ⟨by decide +kernel, by decide +kernel, by decide +kernel⟩, by decide⟩, m_3_220, m_3_221, ⟨_, _, rfl⟩, by decide⟩
def Y_X3_isInside : MY := (yX3_isInside, cX3_isInside, 2, some .boolean)
theorem cm_X3_isInside : CMV Y_X3_isInside 1 3 := ⟨⟨m_2_109, m_1_5, ⟨by decide +kernel, by decide +kernel, by decide +kernel⟩, by decide⟩, m_2_107, m_2_108, ⟨_, _, rfl⟩, by decide⟩
def Y_X3_canBeLost : MY := (yX3_canBeLost, cX3_canBeLost, 2, some .boolean)
theorem cm_X3_canBeLost : CMV Y_X3_canBeLost 1 3 := ⟨⟨m_2_134, m_1_5, ⟨by decide +kernel, by decide +kernel, by decide +kernel⟩, by decide⟩, m_2_132, m_2_133, ⟨_, _, rfl⟩, by decide⟩
def Y_X3_setOf : MY := (yX3_setOf, cX3_setOf, 4, some .int)
theorem cm_X3_setOf : CMV Y_X3_setOf 1 3 := ⟨⟨m_2_143, m_1_5, ⟨by decide +kernel, by decide +kernel, by decide +kernel⟩, by decide⟩, m_2_141, m_2_142, ⟨_, _, rfl⟩, by decide⟩
def Y_X3_howManyInside : MY := (yX3_howManyInside, cX3_howManyInside, 1, some .int)
theorem cm_X3_howManyInside : CMV Y_X3_howManyInside 0 3 := ⟨⟨m_2_139, m_1_5, ⟨by decide +kernel, by decide +kernel, by decide +kernel⟩, by decide⟩, m_2_137, m_2_138, ⟨_, _, rfl⟩, by decide⟩
def Y_X3_hasRoom : MY := (yX3_hasRoom, cX3_hasRoom, 1, some .boolean)
theorem cm_X3_hasRoom : CMV Y_X3_hasRoom 0 3 := ⟨⟨m_2_226, m_1_5, ⟨by decide +kernel, by decide +kernel, by decide +kernel⟩, by decide⟩, m_2_224, m_2_225, ⟨_, _, rfl⟩, by decide⟩
def Y_X3_allWear : MY := (yX3_allWear, cX3_allWear, 3, some .int)
theorem cm_X3_allWear : CMV Y_X3_allWear 0 3 := ⟨⟨m_3_1, m_1_5, ⟨by decide +kernel, by decide +kernel, by decide +kernel⟩, by decide⟩, m_2_239, m_3_0, ⟨_, _, rfl⟩, by decide⟩
def Y_X3_howManyOf : MY := (yX3_howManyOf, cX3_howManyOf, 4, some .int)
theorem cm_X3_howManyOf : CMV Y_X3_howManyOf 1 3 := ⟨⟨m_3_5, m_1_5, ⟨by decide +kernel, by decide +kernel, by decide +kernel⟩, by decide⟩, m_3_3, m_3_4, ⟨_, _, rfl⟩, by decide⟩
def Y_X3_matesOf : MY := (yX3_matesOf, cX3_matesOf, 4, some .int)
theorem cm_X3_matesOf : CMV Y_X3_matesOf 1 3 := ⟨⟨m_3_190, m_1_5, ⟨by decide +kernel, by decide +kernel, by decide +kernel⟩, by decide⟩, m_3_188, m_3_189, ⟨_, _, rfl⟩, by decide⟩
def Y_X3_sameSortAs : MY := (yX3_sameSortAs, cX3_sameSortAs, 4, some .int)
theorem cm_X3_sameSortAs : CMV Y_X3_sameSortAs 1 3 := ⟨⟨m_3_194, m_1_5, ⟨by decide +kernel, by decide +kernel, by decide +kernel⟩, by decide⟩, m_3_192, m_3_193, ⟨_, _, rfl⟩, by decide⟩
def Y_X3_act : MY := (yX3_act, cX3_act, 4, none)
theorem cm_X3_act : CMV Y_X3_act 3 3 := ⟨⟨m_2_118, m_1_5, ⟨by decide +kernel, by decide +kernel, by decide +kernel⟩, by decide⟩, m_2_116, m_2_117, ⟨_, _, rfl⟩, by decide⟩
def Y_X3_actByLot : MY := (yX3_actByLot, cX3_actByLot, 4, none)
theorem cm_X3_actByLot : CMV Y_X3_actByLot 1 3 := ⟨⟨m_2_220, m_1_5, ⟨by decide +kernel, by decide +kernel, by decide +kernel⟩, by decide⟩, m_2_218, m_2_219, ⟨_, _, rfl⟩, by decide⟩
def Y_X3_wearFirstPair : MY := (yX3_wearFirstPair, cX3_wearFirstPair, 3, none)
theorem cm_X3_wearFirstPair : CMV Y_X3_wearFirstPair 0 3 := ⟨⟨m_2_231, m_1_5, ⟨by decide +kernel, by decide +kernel, by decide +kernel⟩, by decide⟩, m_2_230, ms_5, ⟨_, _, rfl⟩, by decide⟩
def Y_X3_replay : MY := (yX3_replay, cX3_replay, 3, none)
theorem cm_X3_replay : CMV Y_X3_replay 0 3 := ⟨⟨m_2_161, m_1_5, ⟨by decide +kernel, by decide +kernel, by decide +kernel⟩, by decide⟩, m_2_159, m_2_160, ⟨_, _, rfl⟩, by decide⟩
def Y_X3_carryOut : MY := (yX3_carryOut, cX3_carryOut, 4, none)
theorem cm_X3_carryOut : CMV Y_X3_carryOut 3 3 := ⟨⟨m_2_126, m_1_5, ⟨by decide +kernel, by decide +kernel, by decide +kernel⟩, by decide⟩, m_2_125, ms_1, ⟨_, _, rfl⟩, by decide⟩
def Y_X4_becomeLike : MY := (yX4_becomeLike, cX4_becomeLike, 2, none)
theorem cm_X4_becomeLike : CMV Y_X4_becomeLike 1 4 := ⟨⟨m_3_203, m_1_7, ⟨by decide +kernel, by decide +kernel, by decide +kernel⟩, by decide⟩, m_3_201, m_3_202, ⟨_, _, rfl⟩, by decide⟩
def Y_X4_isOf : MY := (yX4_isOf, cX4_isOf, 2, some .boolean)
theorem cm_X4_isOf : CMV Y_X4_isOf 1 4 := ⟨⟨m_2_93, m_1_7, ⟨by decide +kernel, by decide +kernel, by decide +kernel⟩, by decide⟩, m_2_91, m_2_92, ⟨_, _, rfl⟩, by decide⟩
def Y_X4_bareWarmth : MY := (yX4_bareWarmth, cX4_bareWarmth, 1, some .int)
theorem cm_X4_bareWarmth : CMV Y_X4_bareWarmth 0 4 := ⟨⟨m_2_101, m_1_7, ⟨by decide +kernel, by decide +kernel, by decide +kernel⟩, by decide⟩, m_2_99, m_2_100, ⟨_, _, rfl⟩, by decide⟩
def Y_X4_warmth : MY := (yX4_warmth, cX4_warmth, 2, some .int)
theorem cm_X4_warmth : CMV Y_X4_warmth 0 4 := ⟨⟨m_2_97, m_1_7, ⟨by decide +kernel, by decide +kernel, by decide +kernel⟩, by decide⟩, m_2_95, m_2_96, ⟨_, _, rfl⟩, by decide⟩
def Y_X4_goesOn : MY := (yX4_goesOn, cX4_goesOn, 2, some .boolean)
theorem cm_X4_goesOn : CMV Y_X4_goesOn 1 4 := ⟨⟨m_2_89, m_1_7, ⟨by decide +kernel, by decide +kernel, by decide +kernel⟩, by decide⟩, m_2_88, ms_0, ⟨_, _, rfl⟩, by decide⟩
def Y_X4_makesPairWith : MY := (yX4_makesPairWith, cX4_makesPairWith, 2, some .boolean)
theorem cm_X4_makesPairWith : CMV Y_X4_makesPairWith 1 4 := ⟨⟨m_2_85, m_1_7, ⟨by decide +kernel, by decide +kernel, by decide +kernel⟩, by decide⟩, m_2_83, m_2_84, ⟨_, _, rfl⟩, by decide⟩
def Y_X4_goodWith : MY := (yX4_goodWith, cX4_goodWith, 3, some .int)
theorem cm_X4_goodWith : CMV Y_X4_goodWith 1 4 := ⟨⟨m_2_81, m_1_7, ⟨by decide +kernel, by decide +kernel, by decide +kernel⟩, by decide⟩, m_2_79, m_2_80, ⟨_, _, rfl⟩, by decide⟩
def Y_X4_tell : MY := (yX4_tell, cX4_tell, 2, some .int)
theorem cm_X4_tell : CMV Y_X4_tell 1 4 := ⟨⟨m_3_37, m_1_7, ⟨by decide +kernel, by decide +kernel, by decide +kernel⟩, by decide⟩, m_3_35, m_3_36, ⟨_, _, rfl⟩, by decide⟩
def Y_X5_isWellTold : MY := (yX5_isWellTold, cX5_isWellTold, 8, some .boolean)
theorem cm_X5_isWellTold : CMV Y_X5_isWellTold 4 5 := ⟨⟨m_4_33, m_1_10, ⟨by decide +kernel, by decide +kernel, by decide +kernel⟩, by decide⟩, m_4_31, m_4_32, ⟨_, _, rfl⟩, by decide⟩
def Y_X5_agrees : MY := (yX5_agrees, cX5_agrees, 6, some .boolean)
theorem cm_X5_agrees : CMV Y_X5_agrees 3 5 := ⟨⟨m_4_44, m_1_10, ⟨by decide +kernel, by decide +kernel, by decide +kernel⟩, by decide⟩, m_4_43, ms_15, ⟨_, _, rfl⟩, by decide⟩
def Y_X5_sortsLeft : MY := (yX5_sortsLeft, cX5_sortsLeft, 7, some .int)
theorem cm_X5_sortsLeft : CMV Y_X5_sortsLeft 4 5 := ⟨⟨m_4_40, m_1_10, ⟨by decide +kernel, by decide +kernel, by decide +kernel⟩, by decide⟩, m_4_38, m_4_39, ⟨_, _, rfl⟩, by decide⟩
def Y_X5_handsLeft : MY := (yX5_handsLeft, cX5_handsLeft, 7, some .int)
theorem cm_X5_handsLeft : CMV Y_X5_handsLeft 4 5 := ⟨⟨m_4_52, m_1_10, ⟨by decide +kernel, by decide +kernel, by decide +kernel⟩, by decide⟩, m_4_50, m_4_51, ⟨_, _, rfl⟩, by decide⟩
def Y_X5_kindsLeft : MY := (yX5_kindsLeft, cX5_kindsLeft, 7, some .int)
theorem cm_X5_kindsLeft : CMV Y_X5_kindsLeft 4 5 := ⟨⟨m_4_60, m_1_10, ⟨by decide +kernel, by decide +kernel, by decide +kernel⟩, by decide⟩, m_4_58, m_4_59, ⟨_, _, rfl⟩, by decide⟩
def Y_X5_nextTry : MY := (yX5_nextTry, cX5_nextTry, 8, some .int)
theorem cm_X5_nextTry : CMV Y_X5_nextTry 3 5 := ⟨⟨m_4_68, m_1_10, ⟨by decide +kernel, by decide +kernel, by decide +kernel⟩, by decide⟩, m_4_66, m_4_67, ⟨_, _, rfl⟩, by decide⟩
def Y_X5_greatestPart : MY := (yX5_greatestPart, cX5_greatestPart, 7, some .int)
theorem cm_X5_greatestPart : CMV Y_X5_greatestPart 4 5 := ⟨⟨m_4_72, m_1_10, ⟨by decide +kernel, by decide +kernel, by decide +kernel⟩, by decide⟩, m_4_70, m_4_71, ⟨_, _, rfl⟩, by decide⟩
def Y_X5_howManyLike : MY := (yX5_howManyLike, cX5_howManyLike, 5, some .int)
theorem cm_X5_howManyLike : CMV Y_X5_howManyLike 2 5 := ⟨⟨m_4_76, m_1_10, ⟨by decide +kernel, by decide +kernel, by decide +kernel⟩, by decide⟩, m_4_75, ms_16, ⟨_, _, rfl⟩, by decide⟩
def Y_X5_gainOfStretch : MY := (yX5_gainOfStretch, cX5_gainOfStretch, 5, some .int)
theorem cm_X5_gainOfStretch : CMV Y_X5_gainOfStretch 2 5 := ⟨⟨m_3_199, m_1_10, ⟨by decide +kernel, by decide +kernel, by decide +kernel⟩, by decide⟩, m_3_197, m_3_198, ⟨_, _, rfl⟩, by decide⟩
def Y_X6_weigh : MY := (yX6_weigh, cX6_weigh, 4, none)
theorem cm_X6_weigh : CMV Y_X6_weigh 1 6 := ⟨⟨m_2_185, m_1_8, ⟨by decide +kernel, by decide +kernel, by decide +kernel⟩, by decide⟩, m_2_183, m_2_184, ⟨_, _, rfl⟩, by decide⟩
def Y_X6_weighWith : MY := (yX6_weighWith, cX6_weighWith, 7, none)
theorem cm_X6_weighWith : CMV Y_X6_weighWith 2 6 := ⟨⟨m_2_190, m_1_8, ⟨by decide +kernel, by decide +kernel, by decide +kernel⟩, by decide⟩, m_2_189, ms_3, ⟨_, _, rfl⟩, by decide⟩
def Y_X6_partTo : MY := (yX6_partTo, cX6_partTo, 7, none)
theorem cm_X6_partTo : CMV Y_X6_partTo 3 6 := ⟨⟨m_3_230, m_1_8, ⟨by decide +kernel, by decide +kernel, by decide +kernel⟩, by decide⟩, m_3_228, m_3_229, ⟨_, _, rfl⟩, by decide⟩
def Y_X6_firstMate : MY := (yX6_firstMate, cX6_firstMate, 7, some .int)
theorem cm_X6_firstMate : CMV Y_X6_firstMate 3 6 := ⟨⟨m_3_236, m_1_8, ⟨by decide +kernel, by decide +kernel, by decide +kernel⟩, by decide⟩, m_3_235, ms_12, ⟨_, _, rfl⟩, by decide⟩
def Y_X6_safestSet : MY := (yX6_safestSet, cX6_safestSet, 6, some .int)
theorem cm_X6_safestSet : CMV Y_X6_safestSet 1 6 := ⟨⟨m_2_195, m_1_8, ⟨by decide +kernel, by decide +kernel, by decide +kernel⟩, by decide⟩, m_2_193, m_2_194, ⟨_, _, rfl⟩, by decide⟩
def Y_X6_isSafer : MY := (yX6_isSafer, cX6_isSafer, 6, some .boolean)
theorem cm_X6_isSafer : CMV Y_X6_isSafer 3 6 := ⟨⟨m_2_201, m_1_8, ⟨by decide +kernel, by decide +kernel, by decide +kernel⟩, by decide⟩, m_2_200, ms_4, ⟨_, _, rfl⟩, by decide⟩
def Y_X6_afterWorstLoss : MY := (yX6_afterWorstLoss, cX6_afterWorstLoss, 5, some .int)
theorem cm_X6_afterWorstLoss : CMV Y_X6_afterWorstLoss 2 6 := ⟨⟨m_2_205, m_1_8, ⟨by decide +kernel, by decide +kernel, by decide +kernel⟩, by decide⟩, m_2_203, m_2_204, ⟨_, _, rfl⟩, by decide⟩
def Y_X6_markSetsOf : MY := (yX6_markSetsOf, cX6_markSetsOf, 3, none)
theorem cm_X6_markSetsOf : CMV Y_X6_markSetsOf 1 6 := ⟨⟨m_4_103, m_1_8, ⟨by decide +kernel, by decide +kernel, by decide +kernel⟩, by decide⟩, m_4_101, m_4_102, ⟨_, _, rfl⟩, by decide⟩
def Y_X7_faultOf : MY := (yX7_faultOf, cX7_faultOf, 6, some .int)
theorem cm_X7_faultOf : CMV Y_X7_faultOf 2 7 := ⟨⟨m_3_150, m_1_4, ⟨by decide +kernel, by decide +kernel, by decide +kernel⟩, by decide⟩, m_3_148, m_3_149, ⟨_, _, rfl⟩, by decide⟩
def Y_X7_faultOfGlove : MY := (yX7_faultOfGlove, cX7_faultOfGlove, 4, some .int)
theorem cm_X7_faultOfGlove : CMV Y_X7_faultOfGlove 3 7 := ⟨⟨m_3_163, m_1_4, ⟨by decide +kernel, by decide +kernel, by decide +kernel⟩, by decide⟩, m_3_162, ms_11, ⟨_, _, rfl⟩, by decide⟩
def Y_X7_pastBlanks : MY := (yX7_pastBlanks, cX7_pastBlanks, 5, some .int)
theorem cm_X7_pastBlanks : CMS Y_X7_pastBlanks 3 := ⟨⟨m_3_154, m_1_4, ⟨by decide +kernel, by decide +kernel, by decide +kernel⟩, by decide⟩, m_3_153⟩
def Y_X7_figure : MY := (yX7_figure, cX7_figure, 6, some .int)
theorem cm_X7_figure : CMS Y_X7_figure 5 := ⟨⟨m_3_158, m_1_4, ⟨by decide +kernel, by decide +kernel, by decide +kernel⟩, by decide⟩, m_3_157⟩
def Y_X7_kindOf : MY := (yX7_kindOf, cX7_kindOf, 1, some .int)
theorem cm_X7_kindOf : CMS Y_X7_kindOf 1 := ⟨⟨m_3_166, m_1_4, ⟨by decide +kernel, by decide +kernel, by decide +kernel⟩, by decide⟩, m_3_165⟩
def Y_X8_leadAfter : MY := (yX8_leadAfter, cX8_leadAfter, 5, some .int)
theorem cm_X8_leadAfter : CMV Y_X8_leadAfter 3 8 := ⟨⟨m_4_86, m_1_11, ⟨by decide +kernel, by decide +kernel, by decide +kernel⟩, by decide⟩, m_4_84, m_4_85, ⟨_, _, rfl⟩, by decide⟩
def Y_X8_lead : MY := (yX8_lead, cX8_lead, 10, some .int)
theorem cm_X8_lead : CMS Y_X8_lead 6 := ⟨⟨m_4_90, m_1_11, ⟨by decide +kernel, by decide +kernel, by decide +kernel⟩, by decide⟩, m_4_89⟩
def Y_X9_isNumber : MY := (yX9_isNumber, cX9_isNumber, 2, some .boolean)
theorem cm_X9_isNumber : CMV Y_X9_isNumber 1 9 := ⟨⟨m_3_22, m_1_2, ⟨by decide +kernel, by decide +kernel, by decide +kernel⟩, by decide⟩, m_3_20, m_3_21, ⟨_, _, rfl⟩, by decide⟩
def Y_X9_sizeOf : MY := (yX9_sizeOf, cX9_sizeOf, 2, some .int)
theorem cm_X9_sizeOf : CMV Y_X9_sizeOf 1 9 := ⟨⟨m_3_18, m_1_2, ⟨by decide +kernel, by decide +kernel, by decide +kernel⟩, by decide⟩, m_3_16, m_3_17, ⟨_, _, rfl⟩, by decide⟩
def Y_X9_isThere : MY := (yX9_isThere, cX9_isThere, 2, some .boolean)
theorem cm_X9_isThere : CMV Y_X9_isThere 1 9 := ⟨⟨m_3_14, m_1_2, ⟨by decide +kernel, by decide +kernel, by decide +kernel⟩, by decide⟩, m_3_12, m_3_13, ⟨_, _, rfl⟩, by decide⟩
def Y_X9_holds : MY := (yX9_holds, cX9_holds, 3, some .boolean)
theorem cm_X9_holds : CMV Y_X9_holds 2 9 := ⟨⟨m_3_50, m_1_2, ⟨by decide +kernel, by decide +kernel, by decide +kernel⟩, by decide⟩, m_3_48, m_3_49, ⟨_, _, rfl⟩, by decide⟩
def Y_X9_reaches : MY := (yX9_reaches, cX9_reaches, 5, some .boolean)
theorem cm_X9_reaches : CMV Y_X9_reaches 3 9 := ⟨⟨m_3_113, m_1_2, ⟨by decide +kernel, by decide +kernel, by decide +kernel⟩, by decide⟩, m_3_111, m_3_112, ⟨_, _, rfl⟩, by decide⟩
def Y_X9_begin : MY := (yX9_begin, cX9_begin, 4, none)
theorem cm_X9_begin : CMV Y_X9_begin 2 9 := ⟨⟨m_3_70, m_1_2, ⟨by decide +kernel, by decide +kernel, by decide +kernel⟩, by decide⟩, m_3_68, m_3_69, ⟨_, _, rfl⟩, by decide⟩
def Y_X9_drop : MY := (yX9_drop, cX9_drop, 2, none)
theorem cm_X9_drop : CMV Y_X9_drop 1 9 := ⟨⟨m_3_105, m_1_2, ⟨by decide +kernel, by decide +kernel, by decide +kernel⟩, by decide⟩, m_3_103, m_3_104, ⟨_, _, rfl⟩, by decide⟩
def Y_X9_read : MY := (yX9_read, cX9_read, 3, some .int)
theorem cm_X9_read : CMV Y_X9_read 2 9 := ⟨⟨m_3_46, m_1_2, ⟨by decide +kernel, by decide +kernel, by decide +kernel⟩, by decide⟩, m_3_44, m_3_45, ⟨_, _, rfl⟩, by decide⟩
def Y_X9_write : MY := (yX9_write, cX9_write, 4, none)
theorem cm_X9_write : CMV Y_X9_write 3 9 := ⟨⟨m_3_89, m_1_2, ⟨by decide +kernel, by decide +kernel, by decide +kernel⟩, by decide⟩, m_3_87, m_3_88, ⟨_, _, rfl⟩, by decide⟩
def Y_X9_move : MY := (yX9_move, cX9_move, 6, none)
theorem cm_X9_move : CMV Y_X9_move 5 9 := ⟨⟨m_3_117, m_1_2, ⟨by decide +kernel, by decide +kernel, by decide +kernel⟩, by decide⟩, m_3_115, m_3_116, ⟨_, _, rfl⟩, by decide⟩
def Y_X9_total : MY := (yX9_total, cX9_total, 5, some .long)
theorem cm_X9_total : CMV Y_X9_total 1 9 := ⟨⟨m_3_130, m_1_2, ⟨by decide +kernel, by decide +kernel, by decide +kernel⟩, by decide⟩, m_3_128, m_3_129, ⟨_, _, rfl⟩, by decide⟩
def Y_X9_howManyThere : MY := (yX9_howManyThere, cX9_howManyThere, 3, some .int)
theorem cm_X9_howManyThere : CMV Y_X9_howManyThere 0 9 := ⟨⟨m_3_10, m_1_2, ⟨by decide +kernel, by decide +kernel, by decide +kernel⟩, by decide⟩, m_3_8, m_3_9, ⟨_, _, rfl⟩, by decide⟩
def Y_X9_digestOn : MY := (yX9_digestOn, cX9_digestOn, 5, some .long)
theorem cm_X9_digestOn : CMV Y_X9_digestOn 1 9 := ⟨⟨m_3_41, m_1_2, ⟨by decide +kernel, by decide +kernel, by decide +kernel⟩, by decide⟩, m_3_39, m_3_40, ⟨_, _, rfl⟩, by decide⟩
def Y_L_low : MY := (yL_low, cL_low, 2, some .int)
theorem cm_L_low : CMS Y_L_low 2 := ⟨⟨m_3_57, m_1_0, ⟨by decide +kernel, by decide +kernel, by decide +kernel⟩, by decide⟩, m_3_56⟩
def Y_L_refused : MY := (yL_refused, cL_refused, 3, some .boolean)
theorem cm_L_refused : CMS Y_L_refused 2 := ⟨⟨m_3_61, m_1_0, ⟨by decide +kernel, by decide +kernel, by decide +kernel⟩, by decide⟩, m_3_60⟩
def Y_L_drawer : MY := (yL_drawer, cL_drawer, 1, some .boolean)
theorem cm_L_drawer : CMS Y_L_drawer 1 := ⟨⟨m_4_132, m_1_0, ⟨by decide +kernel, by decide +kernel, by decide +kernel⟩, by decide⟩, m_4_131⟩
def Y_L_turn : MY := (yL_turn, cL_turn, 3, some .int)
theorem cm_L_turn : CMS Y_L_turn 2 := ⟨⟨m_4_135, m_1_0, ⟨by decide +kernel, by decide +kernel, by decide +kernel⟩, by decide⟩, m_4_134⟩
def Y_J6_bitCount_0f7a4 : MY := (yJ6_bitCount_0f7a4, cJ6_bitCount_0f7a4, 1, some .int)
theorem cm_J6_bitCount_0f7a4 : CMS Y_J6_bitCount_0f7a4 1 := ⟨⟨m_2_146, m_1_14, ⟨by decide +kernel, by decide +kernel, by decide +kernel⟩, by decide⟩, m_2_145⟩
