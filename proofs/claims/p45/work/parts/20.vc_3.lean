abbrev P_X3_fill_18 (G : Glob) (x2 : Int32) (M : Mem) (Q : Option Value → Mem → Prop) : Prop := Wp G 4 Y_X3_fill 18 [some (.ref (ad G 12)), some (.ref (ad G 7)), some (.int x2)] [] M Q
set_option maxRecDepth 20000 in
theorem v_X3_fill_18 {G : Glob} {x2 : Int32} {M : Mem} {Q : Option Value → Mem → Prop}  (h : ((x2 < (M.1 12 2) → (vp_in x2 8 ∧ (vp_in x2 8 ∧ (∀ M6 : Mem, M6 = upI M (55 + x2.toNatClampNeg) 0 (M.1 8 x2.toNatClampNeg) → (vp_in x2 8 ∧ (vp_in x2 8 ∧ (∀ M9 : Mem, M9 = upI M6 (55 + x2.toNatClampNeg) 1 (M6.1 9 x2.toNatClampNeg) → (vp_in x2 8 ∧ (vp_in x2 8 ∧ (∀ M12 : Mem, M12 = upI M9 (55 + x2.toNatClampNeg) 2 (M9.1 10 x2.toNatClampNeg) → (vp_in x2 8 ∧ (vp_in x2 8 ∧ (∀ M15 : Mem, M15 = upI M12 (55 + x2.toNatClampNeg) 3 (M12.1 11 x2.toNatClampNeg) → P_X3_fill_18 G (x2 + 1) M15 Q))))))))))))) ∧ (¬ x2 < (M.1 12 2) → (∀ M2 : Mem, M2 = upI M 14 1 0 → (WpM G 3 Y_X3_replay [.ref (ad G 12)] M2 (RV (fun M3 => Q none M3))))))) : P_X3_fill_18 G x2 M Q := by
  refine wp_iload_n dX3_fill_18 rfl rfl ?_
  refine wp_aload_n dX3_fill_19 rfl rfl ?_
  refine wp_getI dX3_fill_20 rfl fb_3_2 m_1_151 ?_
  refine wp_icmp_ge (tgt := 92) dX3_fill_23 (by decide) (fun c1 => ?_) (fun c1 => ?_)
  · replace h := h.2 c1
    refine wp_aload_n dX3_fill_92 rfl rfl ?_
    refine wp_getR (b := 14) dX3_fill_93 rfl rfl fb_3_1 m_1_148 ?_
    refine wp_iconst (v := 0) dX3_fill_96 (by decide) ?_
    refine wp_putI dX3_fill_97 rfl fp_2_1 m_1_97 ?_
    refine wp_topM (fun M2 hM2 => ?_)
    replace h := h M2 hM2
    refine wp_aload_n dX3_fill_100 rfl rfl ?_
    refine wp_callVV (a := 12) (d1 := 3) (As := []) (st := []) dX3_fill_101 rfl cm_X3_replay m_3_175 (by decide) rfl (Nat.le_of_ble_eq_true rfl) rfl h ?_
    intro M3 h
    exact wp_vret dX3_fill_104 rfl h
  · replace h := h.1 c1
    refine wp_aload_n dX3_fill_26 rfl rfl ?_
    refine wp_getR (b := 13) dX3_fill_27 rfl rfl fb_3_0 m_1_142 ?_
    refine wp_iload_n dX3_fill_30 rfl rfl ?_
    obtain ⟨b4, h⟩ := h
    refine wp_aald (b := (55 + x2.toNatClampNeg)) (n := 8) dX3_fill_31 rfl (by decide) rfl b4 rfl ?_
    have kb4 : kd (55 + x2.toNatClampNeg) = 4 := (kda_23 (a := 13) rfl (vp_lt b4))
    refine wp_aload_n dX3_fill_32 rfl rfl ?_
    refine wp_getR (b := 8) dX3_fill_33 rfl rfl fb_7_0 m_1_55 ?_
    refine wp_iload_n dX3_fill_36 rfl rfl ?_
    obtain ⟨b5, h⟩ := h
    refine wp_iald (n := 8) dX3_fill_37 rfl rfl b5 ?_
    refine wp_putI dX3_fill_38 kb4 fp_4_0 m_1_109 ?_
    refine wp_topM (fun M6 hM6 => ?_)
    replace h := h M6 hM6
    refine wp_aload_n dX3_fill_41 rfl rfl ?_
    refine wp_getR (b := 13) dX3_fill_42 rfl rfl fb_3_0 m_1_142 ?_
    refine wp_iload_n dX3_fill_45 rfl rfl ?_
    obtain ⟨b7, h⟩ := h
    refine wp_aald (b := (55 + x2.toNatClampNeg)) (n := 8) dX3_fill_46 rfl (by decide) rfl b7 rfl ?_
    have kb7 : kd (55 + x2.toNatClampNeg) = 4 := (kda_23 (a := 13) rfl (vp_lt b7))
    refine wp_aload_n dX3_fill_47 rfl rfl ?_
    refine wp_getR (b := 9) dX3_fill_48 rfl rfl fb_7_1 m_1_57 ?_
    refine wp_iload_n dX3_fill_51 rfl rfl ?_
    obtain ⟨b8, h⟩ := h
    refine wp_iald (n := 8) dX3_fill_52 rfl rfl b8 ?_
    refine wp_putI dX3_fill_53 kb7 fp_4_1 m_1_114 ?_
    refine wp_topM (fun M9 hM9 => ?_)
    replace h := h M9 hM9
    refine wp_aload_n dX3_fill_56 rfl rfl ?_
    refine wp_getR (b := 13) dX3_fill_57 rfl rfl fb_3_0 m_1_142 ?_
    refine wp_iload_n dX3_fill_60 rfl rfl ?_
    obtain ⟨b10, h⟩ := h
    refine wp_aald (b := (55 + x2.toNatClampNeg)) (n := 8) dX3_fill_61 rfl (by decide) rfl b10 rfl ?_
    have kb10 : kd (55 + x2.toNatClampNeg) = 4 := (kda_23 (a := 13) rfl (vp_lt b10))
    refine wp_aload_n dX3_fill_62 rfl rfl ?_
    refine wp_getR (b := 10) dX3_fill_63 rfl rfl fb_7_2 m_1_59 ?_
    refine wp_iload_n dX3_fill_66 rfl rfl ?_
    obtain ⟨b11, h⟩ := h
    refine wp_iald (n := 8) dX3_fill_67 rfl rfl b11 ?_
    refine wp_putI dX3_fill_68 kb10 fp_4_2 m_1_117 ?_
    refine wp_topM (fun M12 hM12 => ?_)
    replace h := h M12 hM12
    refine wp_aload_n dX3_fill_71 rfl rfl ?_
    refine wp_getR (b := 13) dX3_fill_72 rfl rfl fb_3_0 m_1_142 ?_
    refine wp_iload_n dX3_fill_75 rfl rfl ?_
    obtain ⟨b13, h⟩ := h
    refine wp_aald (b := (55 + x2.toNatClampNeg)) (n := 8) dX3_fill_76 rfl (by decide) rfl b13 rfl ?_
    have kb13 : kd (55 + x2.toNatClampNeg) = 4 := (kda_23 (a := 13) rfl (vp_lt b13))
    refine wp_aload_n dX3_fill_77 rfl rfl ?_
    refine wp_getR (b := 11) dX3_fill_78 rfl rfl fb_7_3 m_1_61 ?_
    refine wp_iload_n dX3_fill_81 rfl rfl ?_
    obtain ⟨b14, h⟩ := h
    refine wp_iald (n := 8) dX3_fill_82 rfl rfl b14 ?_
    refine wp_putI dX3_fill_83 kb13 fp_4_3 m_1_121 ?_
    refine wp_topM (fun M15 hM15 => ?_)
    replace h := h M15 hM15
    refine wp_iinc (v := (x2 + 1)) (ls' := [some (.ref (ad G 12)), some (.ref (ad G 7)), some (.int (x2 + 1))]) dX3_fill_86 rfl rfl (by decide) rfl rfl ?_
    refine wp_goto (tgt := 18) dX3_fill_89 (by decide) ?_
    exact h
abbrev C_X3_fill (G : Glob)  (M : Mem) (Q : Option Value → Mem → Prop) : Prop := WpM G 4 Y_X3_fill [.ref (ad G 12), .ref (ad G 7)] M Q
set_option maxRecDepth 20000 in
theorem v_X3_fill {G : Glob} {M : Mem} {Q : Option Value → Mem → Prop}  (h : (∀ M1 : Mem, M1 = upI M 12 2 (M.1 7 4) → (∀ M2 : Mem, M2 = upI M1 12 3 (M1.1 7 5) → P_X3_fill_18 G 0 M2 Q))) : C_X3_fill G  M Q := by
  refine wp_enter (ls0 := [some (.ref (ad G 12)), some (.ref (ad G 7)), none]) (by decide +kernel) (Nat.le_of_ble_eq_true rfl) rfl ?_
  refine wp_aload_n dX3_fill_0 rfl rfl ?_
  refine wp_aload_n dX3_fill_1 rfl rfl ?_
  refine wp_getI dX3_fill_2 rfl fb_7_4 m_1_63 ?_
  refine wp_putI dX3_fill_5 rfl fp_3_2 m_1_151 ?_
  refine wp_topM (fun M1 hM1 => ?_)
  replace h := h M1 hM1
  refine wp_aload_n dX3_fill_8 rfl rfl ?_
  refine wp_aload_n dX3_fill_9 rfl rfl ?_
  refine wp_getI dX3_fill_10 rfl fb_7_5 m_1_64 ?_
  refine wp_putI dX3_fill_13 rfl fp_3_3 m_1_156 ?_
  refine wp_topM (fun M2 hM2 => ?_)
  replace h := h M2 hM2
  refine wp_iconst (v := 0) dX3_fill_16 (by decide) ?_
  refine wp_istore_n (ls' := [some (.ref (ad G 12)), some (.ref (ad G 7)), some (.int 0)]) dX3_fill_17 rfl (by decide) rfl rfl ?_
  exact h
abbrev C_X3_has (G : Glob) (x1 : Int32) (M : Mem) (Q : Option Value → Mem → Prop) : Prop := WpM G 1 Y_X3_has [.ref (ad G 12), .int x1] M Q
set_option maxRecDepth 20000 in
theorem v_X3_has {G : Glob} {x1 : Int32} {M : Mem} {Q : Option Value → Mem → Prop}  (h : ((x1 < 0 → Q (some (.int 0)) M) ∧ (¬ x1 < 0 → ((x1 < (M.1 12 2) → Q (some (.int 1)) M) ∧ (¬ x1 < (M.1 12 2) → Q (some (.int 0)) M))))) : C_X3_has G x1 M Q := by
  refine wp_enter (ls0 := [some (.ref (ad G 12)), some (.int x1)]) (by decide +kernel) (Nat.le_of_ble_eq_true rfl) rfl ?_
  refine wp_iload_n dX3_has_0 rfl rfl ?_
  refine wp_if_lt (tgt := 16) dX3_has_1 (by decide) (fun c1 => ?_) (fun c1 => ?_)
  · replace h := h.1 c1
    refine wp_iconst (v := 0) dX3_has_16 (by decide) ?_
    exact wp_iret (ty := .boolean) dX3_has_17 rfl rfl h
  · replace h := h.2 c1
    refine wp_iload_n dX3_has_4 rfl rfl ?_
    refine wp_aload_n dX3_has_5 rfl rfl ?_
    refine wp_getI dX3_has_6 rfl fb_3_2 m_1_151 ?_
    refine wp_icmp_ge (tgt := 16) dX3_has_9 (by decide) (fun c2 => ?_) (fun c2 => ?_)
    · replace h := h.2 c2
      refine wp_iconst (v := 0) dX3_has_16 (by decide) ?_
      exact wp_iret (ty := .boolean) dX3_has_17 rfl rfl h
    · replace h := h.1 c2
      refine wp_iconst (v := 1) dX3_has_12 (by decide) ?_
      refine wp_goto (tgt := 17) dX3_has_13 (by decide) ?_
      exact wp_iret (ty := .boolean) dX3_has_17 rfl rfl h
abbrev C_X3_hasw (G : Glob) (x1 : Int32) (M : Mem) (Q : Option Value → Mem → Prop) : Prop := WpM G 1 Y_X3_has [.ref (ad G 29), .int x1] M Q
set_option maxRecDepth 20000 in
theorem v_X3_hasw {G : Glob} {x1 : Int32} {M : Mem} {Q : Option Value → Mem → Prop}  (h : ((x1 < 0 → Q (some (.int 0)) M) ∧ (¬ x1 < 0 → ((x1 < (M.1 29 2) → Q (some (.int 1)) M) ∧ (¬ x1 < (M.1 29 2) → Q (some (.int 0)) M))))) : C_X3_hasw G x1 M Q := by
  refine wp_enter (ls0 := [some (.ref (ad G 29)), some (.int x1)]) (by decide +kernel) (Nat.le_of_ble_eq_true rfl) rfl ?_
  refine wp_iload_n dX3_has_0 rfl rfl ?_
  refine wp_if_lt (tgt := 16) dX3_has_1 (by decide) (fun c1 => ?_) (fun c1 => ?_)
  · replace h := h.1 c1
    refine wp_iconst (v := 0) dX3_has_16 (by decide) ?_
    exact wp_iret (ty := .boolean) dX3_has_17 rfl rfl h
  · replace h := h.2 c1
    refine wp_iload_n dX3_has_4 rfl rfl ?_
    refine wp_aload_n dX3_has_5 rfl rfl ?_
    refine wp_getI dX3_has_6 rfl fb_3_2 m_1_151 ?_
    refine wp_icmp_ge (tgt := 16) dX3_has_9 (by decide) (fun c2 => ?_) (fun c2 => ?_)
    · replace h := h.2 c2
      refine wp_iconst (v := 0) dX3_has_16 (by decide) ?_
      exact wp_iret (ty := .boolean) dX3_has_17 rfl rfl h
    · replace h := h.1 c2
      refine wp_iconst (v := 1) dX3_has_12 (by decide) ?_
      refine wp_goto (tgt := 17) dX3_has_13 (by decide) ?_
      exact wp_iret (ty := .boolean) dX3_has_17 rfl rfl h
abbrev C_X3_isSet (G : Glob) (x1 : Int32) (M : Mem) (Q : Option Value → Mem → Prop) : Prop := WpM G 1 Y_X3_isSet [.ref (ad G 12), .int x1] M Q
set_option maxRecDepth 20000 in
theorem v_X3_isSet {G : Glob} {x1 : Int32} {M : Mem} {Q : Option Value → Mem → Prop}  (h : ((x1 < 0 → Q (some (.int 0)) M) ∧ (¬ x1 < 0 → ((x1 < (1 <<< ((M.1 12 2) &&& 31)) → Q (some (.int 1)) M) ∧ (¬ x1 < (1 <<< ((M.1 12 2) &&& 31)) → Q (some (.int 0)) M))))) : C_X3_isSet G x1 M Q := by
  refine wp_enter (ls0 := [some (.ref (ad G 12)), some (.int x1)]) (by decide +kernel) (Nat.le_of_ble_eq_true rfl) rfl ?_
  refine wp_iload_n dX3_isSet_0 rfl rfl ?_
  refine wp_if_lt (tgt := 18) dX3_isSet_1 (by decide) (fun c1 => ?_) (fun c1 => ?_)
  · replace h := h.1 c1
    refine wp_iconst (v := 0) dX3_isSet_18 (by decide) ?_
    exact wp_iret (ty := .boolean) dX3_isSet_19 rfl rfl h
  · replace h := h.2 c1
    refine wp_iload_n dX3_isSet_4 rfl rfl ?_
    refine wp_iconst (v := 1) dX3_isSet_5 (by decide) ?_
    refine wp_aload_n dX3_isSet_6 rfl rfl ?_
    refine wp_getI dX3_isSet_7 rfl fb_3_2 m_1_151 ?_
    refine wp_ishl dX3_isSet_10 ?_
    refine wp_icmp_ge (tgt := 18) dX3_isSet_11 (by decide) (fun c2 => ?_) (fun c2 => ?_)
    · replace h := h.2 c2
      refine wp_iconst (v := 0) dX3_isSet_18 (by decide) ?_
      exact wp_iret (ty := .boolean) dX3_isSet_19 rfl rfl h
    · replace h := h.1 c2
      refine wp_iconst (v := 1) dX3_isSet_14 (by decide) ?_
      refine wp_goto (tgt := 19) dX3_isSet_15 (by decide) ?_
      exact wp_iret (ty := .boolean) dX3_isSet_19 rfl rfl h
abbrev C_X3_isInside (G : Glob) (x1 : Int32) (M : Mem) (Q : Option Value → Mem → Prop) : Prop := WpM G 2 Y_X3_isInside [.ref (ad G 12), .int x1] M Q
set_option maxRecDepth 20000 in
theorem v_X3_isInside {G : Glob} {x1 : Int32} {M : Mem} {Q : Option Value → Mem → Prop}  (h : (WpM G 1 Y_X3_has [.ref (ad G 12), .int x1] M (RI (fun r2 M1 => ((r2 = 0 → Q (some (.int 0)) M1) ∧ (¬ r2 = 0 → (vp_in x1 8 ∧ (((M1.1 (55 + x1.toNatClampNeg) 5) = 0 → Q (some (.int 1)) M1) ∧ (¬ (M1.1 (55 + x1.toNatClampNeg) 5) = 0 → Q (some (.int 0)) M1))))))))) : C_X3_isInside G x1 M Q := by
  refine wp_enter (ls0 := [some (.ref (ad G 12)), some (.int x1)]) (by decide +kernel) (Nat.le_of_ble_eq_true rfl) rfl ?_
  refine wp_aload_n dX3_isInside_0 rfl rfl ?_
  refine wp_iload_n dX3_isInside_1 rfl rfl ?_
  refine wp_callVI (a := 12) (d1 := 1) (As := [.int x1]) (st := []) dX3_isInside_2 rfl cm_X3_has m_2_110 (by decide) rfl (Nat.le_of_ble_eq_true rfl) rfl h ?_
  intro r2 M1 h
  refine wp_if_eq (tgt := 24) dX3_isInside_5 (by decide) (fun c3 => ?_) (fun c3 => ?_)
  · replace h := h.1 c3
    refine wp_iconst (v := 0) dX3_isInside_24 (by decide) ?_
    exact wp_iret (ty := .boolean) dX3_isInside_25 rfl rfl h
  · replace h := h.2 c3
    refine wp_aload_n dX3_isInside_8 rfl rfl ?_
    refine wp_getR (b := 13) dX3_isInside_9 rfl rfl fb_3_0 m_1_142 ?_
    refine wp_iload_n dX3_isInside_12 rfl rfl ?_
    obtain ⟨b4, h⟩ := h
    refine wp_aald (b := (55 + x1.toNatClampNeg)) (n := 8) dX3_isInside_13 rfl (by decide) rfl b4 rfl ?_
    have kb4 : kd (55 + x1.toNatClampNeg) = 4 := (kda_23 (a := 13) rfl (vp_lt b4))
    refine wp_getI dX3_isInside_14 kb4 fb_4_5 m_1_127 ?_
    refine wp_if_ne (tgt := 24) dX3_isInside_17 (by decide) (fun c5 => ?_) (fun c5 => ?_)
    · replace h := h.2 c5
      refine wp_iconst (v := 0) dX3_isInside_24 (by decide) ?_
      exact wp_iret (ty := .boolean) dX3_isInside_25 rfl rfl h
    · replace h := h.1 c5
      refine wp_iconst (v := 1) dX3_isInside_20 (by decide) ?_
      refine wp_goto (tgt := 25) dX3_isInside_21 (by decide) ?_
      exact wp_iret (ty := .boolean) dX3_isInside_25 rfl rfl h
abbrev C_X3_isInsidew (G : Glob) (x1 : Int32) (M : Mem) (Q : Option Value → Mem → Prop) : Prop := WpM G 2 Y_X3_isInside [.ref (ad G 29), .int x1] M Q
set_option maxRecDepth 20000 in
theorem v_X3_isInsidew {G : Glob} {x1 : Int32} {M : Mem} {Q : Option Value → Mem → Prop}  (h : (WpM G 1 Y_X3_has [.ref (ad G 29), .int x1] M (RI (fun r2 M1 => ((r2 = 0 → Q (some (.int 0)) M1) ∧ (¬ r2 = 0 → (vp_in x1 8 ∧ (((M1.1 (63 + x1.toNatClampNeg) 5) = 0 → Q (some (.int 1)) M1) ∧ (¬ (M1.1 (63 + x1.toNatClampNeg) 5) = 0 → Q (some (.int 0)) M1))))))))) : C_X3_isInsidew G x1 M Q := by
  refine wp_enter (ls0 := [some (.ref (ad G 29)), some (.int x1)]) (by decide +kernel) (Nat.le_of_ble_eq_true rfl) rfl ?_
  refine wp_aload_n dX3_isInside_0 rfl rfl ?_
  refine wp_iload_n dX3_isInside_1 rfl rfl ?_
  refine wp_callVI (a := 29) (d1 := 1) (As := [.int x1]) (st := []) dX3_isInside_2 rfl cm_X3_has m_2_110 (by decide) rfl (Nat.le_of_ble_eq_true rfl) rfl h ?_
  intro r2 M1 h
  refine wp_if_eq (tgt := 24) dX3_isInside_5 (by decide) (fun c3 => ?_) (fun c3 => ?_)
  · replace h := h.1 c3
    refine wp_iconst (v := 0) dX3_isInside_24 (by decide) ?_
    exact wp_iret (ty := .boolean) dX3_isInside_25 rfl rfl h
  · replace h := h.2 c3
    refine wp_aload_n dX3_isInside_8 rfl rfl ?_
    refine wp_getR (b := 30) dX3_isInside_9 rfl rfl fb_3_0 m_1_142 ?_
    refine wp_iload_n dX3_isInside_12 rfl rfl ?_
    obtain ⟨b4, h⟩ := h
    refine wp_aald (b := (63 + x1.toNatClampNeg)) (n := 8) dX3_isInside_13 rfl (by decide) rfl b4 rfl ?_
    have kb4 : kd (63 + x1.toNatClampNeg) = 4 := (kda_23 (a := 30) rfl (vp_lt b4))
    refine wp_getI dX3_isInside_14 kb4 fb_4_5 m_1_127 ?_
    refine wp_if_ne (tgt := 24) dX3_isInside_17 (by decide) (fun c5 => ?_) (fun c5 => ?_)
    · replace h := h.2 c5
      refine wp_iconst (v := 0) dX3_isInside_24 (by decide) ?_
      exact wp_iret (ty := .boolean) dX3_isInside_25 rfl rfl h
    · replace h := h.1 c5
      refine wp_iconst (v := 1) dX3_isInside_20 (by decide) ?_
      refine wp_goto (tgt := 25) dX3_isInside_21 (by decide) ?_
      exact wp_iret (ty := .boolean) dX3_isInside_25 rfl rfl h
abbrev C_X3_canBeLost (G : Glob) (x1 : Int32) (M : Mem) (Q : Option Value → Mem → Prop) : Prop := WpM G 3 Y_X3_canBeLost [.ref (ad G 12), .int x1] M Q
set_option maxRecDepth 20000 in
theorem v_X3_canBeLost {G : Glob} {x1 : Int32} {M : Mem} {Q : Option Value → Mem → Prop}  (h : (WpM G 2 Y_X3_isInside [.ref (ad G 12), .int x1] M (RI (fun r2 M1 => ((r2 = 0 → Q (some (.int 0)) M1) ∧ (¬ r2 = 0 → (vp_in x1 8 ∧ (((M1.1 (55 + x1.toNatClampNeg) 0) = 3 → Q (some (.int 0)) M1) ∧ (¬ (M1.1 (55 + x1.toNatClampNeg) 0) = 3 → Q (some (.int 1)) M1))))))))) : C_X3_canBeLost G x1 M Q := by
  refine wp_enter (ls0 := [some (.ref (ad G 12)), some (.int x1)]) (by decide +kernel) (Nat.le_of_ble_eq_true rfl) rfl ?_
  refine wp_aload_n dX3_canBeLost_0 rfl rfl ?_
  refine wp_iload_n dX3_canBeLost_1 rfl rfl ?_
  refine wp_callVI (a := 12) (d1 := 2) (As := [.int x1]) (st := []) dX3_canBeLost_2 rfl cm_X3_isInside m_2_135 (by decide) rfl (Nat.le_of_ble_eq_true rfl) rfl h ?_
  intro r2 M1 h
  refine wp_if_eq (tgt := 25) dX3_canBeLost_5 (by decide) (fun c3 => ?_) (fun c3 => ?_)
  · replace h := h.1 c3
    refine wp_iconst (v := 0) dX3_canBeLost_25 (by decide) ?_
    exact wp_iret (ty := .boolean) dX3_canBeLost_26 rfl rfl h
  · replace h := h.2 c3
    refine wp_aload_n dX3_canBeLost_8 rfl rfl ?_
    refine wp_getR (b := 13) dX3_canBeLost_9 rfl rfl fb_3_0 m_1_142 ?_
    refine wp_iload_n dX3_canBeLost_12 rfl rfl ?_
    obtain ⟨b4, h⟩ := h
    refine wp_aald (b := (55 + x1.toNatClampNeg)) (n := 8) dX3_canBeLost_13 rfl (by decide) rfl b4 rfl ?_
    have kb4 : kd (55 + x1.toNatClampNeg) = 4 := (kda_23 (a := 13) rfl (vp_lt b4))
    refine wp_getI dX3_canBeLost_14 kb4 fb_4_0 m_1_109 ?_
    refine wp_iconst (v := 3) dX3_canBeLost_17 (by decide) ?_
    refine wp_icmp_eq (tgt := 25) dX3_canBeLost_18 (by decide) (fun c5 => ?_) (fun c5 => ?_)
    · replace h := h.1 c5
      refine wp_iconst (v := 0) dX3_canBeLost_25 (by decide) ?_
      exact wp_iret (ty := .boolean) dX3_canBeLost_26 rfl rfl h
    · replace h := h.2 c5
      refine wp_iconst (v := 1) dX3_canBeLost_21 (by decide) ?_
      refine wp_goto (tgt := 26) dX3_canBeLost_22 (by decide) ?_
      exact wp_iret (ty := .boolean) dX3_canBeLost_26 rfl rfl h
abbrev P_X3_setOf_4 (G : Glob) (x1 : Int32) (x2 : Int32) (x3 : Int32) (M : Mem) (Q : Option Value → Mem → Prop) : Prop := Wp G 1 Y_X3_setOf 4 [some (.ref (ad G 12)), some (.int x1), some (.int x2), some (.int x3)] [] M Q
set_option maxRecDepth 20000 in
theorem v_X3_setOf_4 {G : Glob} {x1 : Int32} {x2 : Int32} {x3 : Int32} {M : Mem} {Q : Option Value → Mem → Prop}  (h : ((x3 < (M.1 12 2) → (vp_in x3 8 ∧ (((M.1 (55 + x3.toNatClampNeg) 5) = x1 → (∀ y4 : Int32, y4 = (x2 ||| (1 <<< (x3 &&& 31))) → P_X3_setOf_4 G x1 y4 (x3 + 1) M Q)) ∧ (¬ (M.1 (55 + x3.toNatClampNeg) 5) = x1 → P_X3_setOf_4 G x1 x2 (x3 + 1) M Q)))) ∧ (¬ x3 < (M.1 12 2) → Q (some (.int x2)) M))) : P_X3_setOf_4 G x1 x2 x3 M Q := by
  refine wp_iload_n dX3_setOf_4 rfl rfl ?_
  refine wp_aload_n dX3_setOf_5 rfl rfl ?_
  refine wp_getI dX3_setOf_6 rfl fb_3_2 m_1_151 ?_
  refine wp_icmp_ge (tgt := 37) dX3_setOf_9 (by decide) (fun c1 => ?_) (fun c1 => ?_)
  · replace h := h.2 c1
    refine wp_iload_n dX3_setOf_37 rfl rfl ?_
    exact wp_iret (ty := .int) dX3_setOf_38 rfl rfl h
  · replace h := h.1 c1
    refine wp_aload_n dX3_setOf_12 rfl rfl ?_
    refine wp_getR (b := 13) dX3_setOf_13 rfl rfl fb_3_0 m_1_142 ?_
    refine wp_iload_n dX3_setOf_16 rfl rfl ?_
    obtain ⟨b2, h⟩ := h
    refine wp_aald (b := (55 + x3.toNatClampNeg)) (n := 8) dX3_setOf_17 rfl (by decide) rfl b2 rfl ?_
    have kb2 : kd (55 + x3.toNatClampNeg) = 4 := (kda_23 (a := 13) rfl (vp_lt b2))
    refine wp_getI dX3_setOf_18 kb2 fb_4_5 m_1_127 ?_
    refine wp_iload_n dX3_setOf_21 rfl rfl ?_
    refine wp_icmp_ne (tgt := 31) dX3_setOf_22 (by decide) (fun c3 => ?_) (fun c3 => ?_)
    · replace h := h.2 c3
      refine wp_iinc (v := (x3 + 1)) (ls' := [some (.ref (ad G 12)), some (.int x1), some (.int x2), some (.int (x3 + 1))]) dX3_setOf_31 rfl rfl (by decide) rfl rfl ?_
      refine wp_goto (tgt := 4) dX3_setOf_34 (by decide) ?_
      exact h
    · replace h := h.1 c3
      refine wp_iload_n dX3_setOf_25 rfl rfl ?_
      refine wp_iconst (v := 1) dX3_setOf_26 (by decide) ?_
      refine wp_iload_n dX3_setOf_27 rfl rfl ?_
      refine wp_ishl dX3_setOf_28 ?_
      refine wp_ior dX3_setOf_29 ?_
      refine wp_topI (fun y4 hy4 => ?_)
      replace h := h y4 hy4
      refine wp_istore_n (ls' := [some (.ref (ad G 12)), some (.int x1), some (.int y4), some (.int x3)]) dX3_setOf_30 rfl (by decide) rfl rfl ?_
      refine wp_iinc (v := (x3 + 1)) (ls' := [some (.ref (ad G 12)), some (.int x1), some (.int y4), some (.int (x3 + 1))]) dX3_setOf_31 rfl rfl (by decide) rfl rfl ?_
      refine wp_goto (tgt := 4) dX3_setOf_34 (by decide) ?_
      exact h
abbrev C_X3_setOf (G : Glob) (x1 : Int32) (M : Mem) (Q : Option Value → Mem → Prop) : Prop := WpM G 1 Y_X3_setOf [.ref (ad G 12), .int x1] M Q
set_option maxRecDepth 20000 in
theorem v_X3_setOf {G : Glob} {x1 : Int32} {M : Mem} {Q : Option Value → Mem → Prop}  (h : P_X3_setOf_4 G x1 0 0 M Q) : C_X3_setOf G x1 M Q := by
  refine wp_enter (ls0 := [some (.ref (ad G 12)), some (.int x1), none, none]) (by decide +kernel) (Nat.le_of_ble_eq_true rfl) rfl ?_
  refine wp_iconst (v := 0) dX3_setOf_0 (by decide) ?_
  refine wp_istore_n (ls' := [some (.ref (ad G 12)), some (.int x1), some (.int 0), none]) dX3_setOf_1 rfl (by decide) rfl rfl ?_
  refine wp_iconst (v := 0) dX3_setOf_2 (by decide) ?_
  refine wp_istore_n (ls' := [some (.ref (ad G 12)), some (.int x1), some (.int 0), some (.int 0)]) dX3_setOf_3 rfl (by decide) rfl rfl ?_
  exact h
abbrev C_X3_howManyInside (G : Glob)  (M : Mem) (Q : Option Value → Mem → Prop) : Prop := WpM G 2 Y_X3_howManyInside [.ref (ad G 12)] M Q
set_option maxRecDepth 20000 in
theorem v_X3_howManyInside {G : Glob} {M : Mem} {Q : Option Value → Mem → Prop}  (h : (WpM G 1 Y_X3_setOf [.ref (ad G 12), .int 0] M (RI (fun r2 M1 => (WpM G 1 Y_J6_bitCount_0f7a4 [.int r2] M1 (RI (fun r4 M3 => Q (some (.int r4)) M3))))))) : C_X3_howManyInside G  M Q := by
  refine wp_enter (ls0 := [some (.ref (ad G 12))]) (by decide +kernel) (Nat.le_of_ble_eq_true rfl) rfl ?_
  refine wp_aload_n dX3_howManyInside_0 rfl rfl ?_
  refine wp_iconst (v := 0) dX3_howManyInside_1 (by decide) ?_
  refine wp_callVI (a := 12) (d1 := 1) (As := [.int 0]) (st := []) dX3_howManyInside_2 rfl cm_X3_setOf m_2_140 (by decide) rfl (Nat.le_of_ble_eq_true rfl) rfl h ?_
  intro r2 M1 h
  refine wp_callSI (d1 := 1) (As := [.int r2]) (st := []) dX3_howManyInside_5 cm_J6_bitCount_0f7a4 m_2_144 (by decide) rfl (Nat.le_of_ble_eq_true rfl) rfl h ?_
  intro r4 M3 h
  exact wp_iret (ty := .int) dX3_howManyInside_8 rfl rfl h
abbrev C_X3_hasRoom (G : Glob)  (M : Mem) (Q : Option Value → Mem → Prop) : Prop := WpM G 3 Y_X3_hasRoom [.ref (ad G 12)] M Q
set_option maxRecDepth 20000 in
theorem v_X3_hasRoom {G : Glob} {M : Mem} {Q : Option Value → Mem → Prop}  (h : (WpM G 2 Y_X3_howManyInside [.ref (ad G 12)] M (RI (fun r2 M1 => ((r2 < (M1.1 12 3) → Q (some (.int 1)) M1) ∧ (¬ r2 < (M1.1 12 3) → Q (some (.int 0)) M1)))))) : C_X3_hasRoom G  M Q := by
  refine wp_enter (ls0 := [some (.ref (ad G 12))]) (by decide +kernel) (Nat.le_of_ble_eq_true rfl) rfl ?_
  refine wp_aload_n dX3_hasRoom_0 rfl rfl ?_
  refine wp_callVI (a := 12) (d1 := 2) (As := []) (st := []) dX3_hasRoom_1 rfl cm_X3_howManyInside m_2_227 (by decide) rfl (Nat.le_of_ble_eq_true rfl) rfl h ?_
  intro r2 M1 h
  refine wp_aload_n dX3_hasRoom_4 rfl rfl ?_
  refine wp_getI dX3_hasRoom_5 rfl fb_3_3 m_1_156 ?_
  refine wp_icmp_ge (tgt := 15) dX3_hasRoom_8 (by decide) (fun c3 => ?_) (fun c3 => ?_)
  · replace h := h.2 c3
    refine wp_iconst (v := 0) dX3_hasRoom_15 (by decide) ?_
    exact wp_iret (ty := .boolean) dX3_hasRoom_16 rfl rfl h
  · replace h := h.1 c3
    refine wp_iconst (v := 1) dX3_hasRoom_11 (by decide) ?_
    refine wp_goto (tgt := 16) dX3_hasRoom_12 (by decide) ?_
    exact wp_iret (ty := .boolean) dX3_hasRoom_16 rfl rfl h
abbrev P_X3_allWear_4 (G : Glob) (x1 : Int32) (x2 : Int32) (M : Mem) (Q : Option Value → Mem → Prop) : Prop := Wp G 1 Y_X3_allWear 4 [some (.ref (ad G 12)), some (.int x1), some (.int x2)] [] M Q
set_option maxRecDepth 20000 in
theorem v_X3_allWear_4 {G : Glob} {x1 : Int32} {x2 : Int32} {M : Mem} {Q : Option Value → Mem → Prop}  (h : ((x2 < (M.1 12 2) → (vp_in x2 8 ∧ (∀ y3 : Int32, y3 = (x1 + (M.1 (55 + x2.toNatClampNeg) 4)) → P_X3_allWear_4 G y3 (x2 + 1) M Q))) ∧ (¬ x2 < (M.1 12 2) → Q (some (.int x1)) M))) : P_X3_allWear_4 G x1 x2 M Q := by
  refine wp_iload_n dX3_allWear_4 rfl rfl ?_
  refine wp_aload_n dX3_allWear_5 rfl rfl ?_
  refine wp_getI dX3_allWear_6 rfl fb_3_2 m_1_151 ?_
  refine wp_icmp_ge (tgt := 30) dX3_allWear_9 (by decide) (fun c1 => ?_) (fun c1 => ?_)
  · replace h := h.2 c1
    refine wp_iload_n dX3_allWear_30 rfl rfl ?_
    exact wp_iret (ty := .int) dX3_allWear_31 rfl rfl h
  · replace h := h.1 c1
    refine wp_iload_n dX3_allWear_12 rfl rfl ?_
    refine wp_aload_n dX3_allWear_13 rfl rfl ?_
    refine wp_getR (b := 13) dX3_allWear_14 rfl rfl fb_3_0 m_1_142 ?_
    refine wp_iload_n dX3_allWear_17 rfl rfl ?_
    obtain ⟨b2, h⟩ := h
    refine wp_aald (b := (55 + x2.toNatClampNeg)) (n := 8) dX3_allWear_18 rfl (by decide) rfl b2 rfl ?_
    have kb2 : kd (55 + x2.toNatClampNeg) = 4 := (kda_23 (a := 13) rfl (vp_lt b2))
    refine wp_getI dX3_allWear_19 kb2 fb_4_4 m_1_124 ?_
    refine wp_iadd dX3_allWear_22 ?_
    refine wp_topI (fun y3 hy3 => ?_)
    replace h := h y3 hy3
    refine wp_istore_n (ls' := [some (.ref (ad G 12)), some (.int y3), some (.int x2)]) dX3_allWear_23 rfl (by decide) rfl rfl ?_
    refine wp_iinc (v := (x2 + 1)) (ls' := [some (.ref (ad G 12)), some (.int y3), some (.int (x2 + 1))]) dX3_allWear_24 rfl rfl (by decide) rfl rfl ?_
    refine wp_goto (tgt := 4) dX3_allWear_27 (by decide) ?_
    exact h
abbrev C_X3_allWear (G : Glob)  (M : Mem) (Q : Option Value → Mem → Prop) : Prop := WpM G 1 Y_X3_allWear [.ref (ad G 12)] M Q
set_option maxRecDepth 20000 in
theorem v_X3_allWear {G : Glob} {M : Mem} {Q : Option Value → Mem → Prop}  (h : P_X3_allWear_4 G 0 0 M Q) : C_X3_allWear G  M Q := by
  refine wp_enter (ls0 := [some (.ref (ad G 12)), none, none]) (by decide +kernel) (Nat.le_of_ble_eq_true rfl) rfl ?_
  refine wp_iconst (v := 0) dX3_allWear_0 (by decide) ?_
  refine wp_istore_n (ls' := [some (.ref (ad G 12)), some (.int 0), none]) dX3_allWear_1 rfl (by decide) rfl rfl ?_
  refine wp_iconst (v := 0) dX3_allWear_2 (by decide) ?_
  refine wp_istore_n (ls' := [some (.ref (ad G 12)), some (.int 0), some (.int 0)]) dX3_allWear_3 rfl (by decide) rfl rfl ?_
  exact h
abbrev P_X3_howManyOf_4 (G : Glob) (x1 : Int32) (x2 : Int32) (x3 : Int32) (M : Mem) (Q : Option Value → Mem → Prop) : Prop := Wp G 2 Y_X3_howManyOf 4 [some (.ref (ad G 12)), some (.int x1), some (.int x2), some (.int x3)] [] M Q
set_option maxRecDepth 20000 in
theorem v_X3_howManyOf_4 {G : Glob} {x1 : Int32} {x2 : Int32} {x3 : Int32} {M : Mem} {Q : Option Value → Mem → Prop}  (h : ((x3 < (M.1 12 2) → (vp_in x3 8 ∧ (WpM G 1 Y_X4_isOf [.ref (ad G (55 + x3.toNatClampNeg)), .int x1] M (RI (fun r4 M3 => ((r4 = 0 → P_X3_howManyOf_4 G x1 x2 (x3 + 1) M3 Q) ∧ (¬ r4 = 0 → P_X3_howManyOf_4 G x1 (x2 + 1) (x3 + 1) M3 Q))))))) ∧ (¬ x3 < (M.1 12 2) → Q (some (.int x2)) M))) : P_X3_howManyOf_4 G x1 x2 x3 M Q := by
  refine wp_iload_n dX3_howManyOf_4 rfl rfl ?_
  refine wp_aload_n dX3_howManyOf_5 rfl rfl ?_
  refine wp_getI dX3_howManyOf_6 rfl fb_3_2 m_1_151 ?_
  refine wp_icmp_ge (tgt := 34) dX3_howManyOf_9 (by decide) (fun c1 => ?_) (fun c1 => ?_)
  · replace h := h.2 c1
    refine wp_iload_n dX3_howManyOf_34 rfl rfl ?_
    exact wp_iret (ty := .int) dX3_howManyOf_35 rfl rfl h
  · replace h := h.1 c1
    refine wp_aload_n dX3_howManyOf_12 rfl rfl ?_
    refine wp_getR (b := 13) dX3_howManyOf_13 rfl rfl fb_3_0 m_1_142 ?_
    refine wp_iload_n dX3_howManyOf_16 rfl rfl ?_
    obtain ⟨b2, h⟩ := h
    refine wp_aald (b := (55 + x3.toNatClampNeg)) (n := 8) dX3_howManyOf_17 rfl (by decide) rfl b2 rfl ?_
    have kb2 : kd (55 + x3.toNatClampNeg) = 4 := (kda_23 (a := 13) rfl (vp_lt b2))
    refine wp_iload_n dX3_howManyOf_18 rfl rfl ?_
    refine wp_callVI (a := (55 + x3.toNatClampNeg)) (d1 := 1) (As := [.int x1]) (st := []) dX3_howManyOf_19 kb2 cm_X4_isOf m_3_6 (by decide) rfl (Nat.le_of_ble_eq_true rfl) rfl h ?_
    intro r4 M3 h
    refine wp_if_eq (tgt := 28) dX3_howManyOf_22 (by decide) (fun c5 => ?_) (fun c5 => ?_)
    · replace h := h.1 c5
      refine wp_iinc (v := (x3 + 1)) (ls' := [some (.ref (ad G 12)), some (.int x1), some (.int x2), some (.int (x3 + 1))]) dX3_howManyOf_28 rfl rfl (by decide) rfl rfl ?_
      refine wp_goto (tgt := 4) dX3_howManyOf_31 (by decide) ?_
      exact h
    · replace h := h.2 c5
      refine wp_iinc (v := (x2 + 1)) (ls' := [some (.ref (ad G 12)), some (.int x1), some (.int (x2 + 1)), some (.int x3)]) dX3_howManyOf_25 rfl rfl (by decide) rfl rfl ?_
      refine wp_iinc (v := (x3 + 1)) (ls' := [some (.ref (ad G 12)), some (.int x1), some (.int (x2 + 1)), some (.int (x3 + 1))]) dX3_howManyOf_28 rfl rfl (by decide) rfl rfl ?_
      refine wp_goto (tgt := 4) dX3_howManyOf_31 (by decide) ?_
      exact h
abbrev C_X3_howManyOf (G : Glob) (x1 : Int32) (M : Mem) (Q : Option Value → Mem → Prop) : Prop := WpM G 2 Y_X3_howManyOf [.ref (ad G 12), .int x1] M Q
set_option maxRecDepth 20000 in
theorem v_X3_howManyOf {G : Glob} {x1 : Int32} {M : Mem} {Q : Option Value → Mem → Prop}  (h : P_X3_howManyOf_4 G x1 0 0 M Q) : C_X3_howManyOf G x1 M Q := by
  refine wp_enter (ls0 := [some (.ref (ad G 12)), some (.int x1), none, none]) (by decide +kernel) (Nat.le_of_ble_eq_true rfl) rfl ?_
  refine wp_iconst (v := 0) dX3_howManyOf_0 (by decide) ?_
  refine wp_istore_n (ls' := [some (.ref (ad G 12)), some (.int x1), some (.int 0), none]) dX3_howManyOf_1 rfl (by decide) rfl rfl ?_
  refine wp_iconst (v := 0) dX3_howManyOf_2 (by decide) ?_
  refine wp_istore_n (ls' := [some (.ref (ad G 12)), some (.int x1), some (.int 0), some (.int 0)]) dX3_howManyOf_3 rfl (by decide) rfl rfl ?_
  exact h
abbrev P_X3_matesOf_4 (G : Glob) (x1 : Int32) (x2 : Int32) (x3 : Int32) (M : Mem) (Q : Option Value → Mem → Prop) : Prop := Wp G 4 Y_X3_matesOf 4 [some (.ref (ad G 12)), some (.int x1), some (.int x2), some (.int x3)] [] M Q
set_option maxRecDepth 20000 in
theorem v_X3_matesOf_4 {G : Glob} {x1 : Int32} {x2 : Int32} {x3 : Int32} {M : Mem} {Q : Option Value → Mem → Prop}  (h : ((x3 < (M.1 12 2) → ((x3 = x1 → P_X3_matesOf_4 G x1 x2 (x3 + 1) M Q) ∧ (¬ x3 = x1 → (WpM G 2 Y_X3_isInside [.ref (ad G 12), .int x3] M (RI (fun r4 M3 => ((r4 = 0 → P_X3_matesOf_4 G x1 x2 (x3 + 1) M3 Q) ∧ (¬ r4 = 0 → (vp_in x3 8 ∧ (vp_in x1 8 ∧ (WpM G 3 Y_X4_makesPairWith [.ref (ad G (55 + x3.toNatClampNeg)), .ref (ad G (55 + x1.toNatClampNeg))] M3 (RI (fun r9 M8 => ((r9 = 0 → P_X3_matesOf_4 G x1 x2 (x3 + 1) M8 Q) ∧ (¬ r9 = 0 → P_X3_matesOf_4 G x1 (x2 + 1) (x3 + 1) M8 Q))))))))))))))) ∧ (¬ x3 < (M.1 12 2) → Q (some (.int x2)) M))) : P_X3_matesOf_4 G x1 x2 x3 M Q := by
  refine wp_iload_n dX3_matesOf_4 rfl rfl ?_
  refine wp_aload_n dX3_matesOf_5 rfl rfl ?_
  refine wp_getI dX3_matesOf_6 rfl fb_3_2 m_1_151 ?_
  refine wp_icmp_ge (tgt := 52) dX3_matesOf_9 (by decide) (fun c1 => ?_) (fun c1 => ?_)
  · replace h := h.2 c1
    refine wp_iload_n dX3_matesOf_52 rfl rfl ?_
    exact wp_iret (ty := .int) dX3_matesOf_53 rfl rfl h
  · replace h := h.1 c1
    refine wp_iload_n dX3_matesOf_12 rfl rfl ?_
    refine wp_iload_n dX3_matesOf_13 rfl rfl ?_
    refine wp_icmp_eq (tgt := 46) dX3_matesOf_14 (by decide) (fun c2 => ?_) (fun c2 => ?_)
    · replace h := h.1 c2
      refine wp_iinc (v := (x3 + 1)) (ls' := [some (.ref (ad G 12)), some (.int x1), some (.int x2), some (.int (x3 + 1))]) dX3_matesOf_46 rfl rfl (by decide) rfl rfl ?_
      refine wp_goto (tgt := 4) dX3_matesOf_49 (by decide) ?_
      exact h
    · replace h := h.2 c2
      refine wp_aload_n dX3_matesOf_17 rfl rfl ?_
      refine wp_iload_n dX3_matesOf_18 rfl rfl ?_
      refine wp_callVI (a := 12) (d1 := 2) (As := [.int x3]) (st := []) dX3_matesOf_19 rfl cm_X3_isInside m_2_135 (by decide) rfl (Nat.le_of_ble_eq_true rfl) rfl h ?_
      intro r4 M3 h
      refine wp_if_eq (tgt := 46) dX3_matesOf_22 (by decide) (fun c5 => ?_) (fun c5 => ?_)
      · replace h := h.1 c5
        refine wp_iinc (v := (x3 + 1)) (ls' := [some (.ref (ad G 12)), some (.int x1), some (.int x2), some (.int (x3 + 1))]) dX3_matesOf_46 rfl rfl (by decide) rfl rfl ?_
        refine wp_goto (tgt := 4) dX3_matesOf_49 (by decide) ?_
        exact h
      · replace h := h.2 c5
        refine wp_aload_n dX3_matesOf_25 rfl rfl ?_
        refine wp_getR (b := 13) dX3_matesOf_26 rfl rfl fb_3_0 m_1_142 ?_
        refine wp_iload_n dX3_matesOf_29 rfl rfl ?_
        obtain ⟨b6, h⟩ := h
        refine wp_aald (b := (55 + x3.toNatClampNeg)) (n := 8) dX3_matesOf_30 rfl (by decide) rfl b6 rfl ?_
        have kb6 : kd (55 + x3.toNatClampNeg) = 4 := (kda_23 (a := 13) rfl (vp_lt b6))
        refine wp_aload_n dX3_matesOf_31 rfl rfl ?_
        refine wp_getR (b := 13) dX3_matesOf_32 rfl rfl fb_3_0 m_1_142 ?_
        refine wp_iload_n dX3_matesOf_35 rfl rfl ?_
        obtain ⟨b7, h⟩ := h
        refine wp_aald (b := (55 + x1.toNatClampNeg)) (n := 8) dX3_matesOf_36 rfl (by decide) rfl b7 rfl ?_
        have kb7 : kd (55 + x1.toNatClampNeg) = 4 := (kda_23 (a := 13) rfl (vp_lt b7))
        refine wp_callVI (a := (55 + x3.toNatClampNeg)) (d1 := 3) (As := [.ref (ad G (55 + x1.toNatClampNeg))]) (st := []) dX3_matesOf_37 kb6 cm_X4_makesPairWith m_2_232 (by decide) rfl (Nat.le_of_ble_eq_true rfl) rfl h ?_
        intro r9 M8 h
        refine wp_if_eq (tgt := 46) dX3_matesOf_40 (by decide) (fun c10 => ?_) (fun c10 => ?_)
        · replace h := h.1 c10
          refine wp_iinc (v := (x3 + 1)) (ls' := [some (.ref (ad G 12)), some (.int x1), some (.int x2), some (.int (x3 + 1))]) dX3_matesOf_46 rfl rfl (by decide) rfl rfl ?_
          refine wp_goto (tgt := 4) dX3_matesOf_49 (by decide) ?_
          exact h
        · replace h := h.2 c10
          refine wp_iinc (v := (x2 + 1)) (ls' := [some (.ref (ad G 12)), some (.int x1), some (.int (x2 + 1)), some (.int x3)]) dX3_matesOf_43 rfl rfl (by decide) rfl rfl ?_
          refine wp_iinc (v := (x3 + 1)) (ls' := [some (.ref (ad G 12)), some (.int x1), some (.int (x2 + 1)), some (.int (x3 + 1))]) dX3_matesOf_46 rfl rfl (by decide) rfl rfl ?_
          refine wp_goto (tgt := 4) dX3_matesOf_49 (by decide) ?_
          exact h
abbrev C_X3_matesOf (G : Glob) (x1 : Int32) (M : Mem) (Q : Option Value → Mem → Prop) : Prop := WpM G 4 Y_X3_matesOf [.ref (ad G 12), .int x1] M Q
set_option maxRecDepth 20000 in
theorem v_X3_matesOf {G : Glob} {x1 : Int32} {M : Mem} {Q : Option Value → Mem → Prop}  (h : P_X3_matesOf_4 G x1 0 0 M Q) : C_X3_matesOf G x1 M Q := by
  refine wp_enter (ls0 := [some (.ref (ad G 12)), some (.int x1), none, none]) (by decide +kernel) (Nat.le_of_ble_eq_true rfl) rfl ?_
  refine wp_iconst (v := 0) dX3_matesOf_0 (by decide) ?_
  refine wp_istore_n (ls' := [some (.ref (ad G 12)), some (.int x1), some (.int 0), none]) dX3_matesOf_1 rfl (by decide) rfl rfl ?_
  refine wp_iconst (v := 0) dX3_matesOf_2 (by decide) ?_
  refine wp_istore_n (ls' := [some (.ref (ad G 12)), some (.int x1), some (.int 0), some (.int 0)]) dX3_matesOf_3 rfl (by decide) rfl rfl ?_
  exact h
abbrev P_X3_sameSortAs_4 (G : Glob) (x1 : Int32) (x2 : Int32) (x3 : Int32) (M : Mem) (Q : Option Value → Mem → Prop) : Prop := Wp G 3 Y_X3_sameSortAs 4 [some (.ref (ad G 12)), some (.int x1), some (.int x2), some (.int x3)] [] M Q
set_option maxRecDepth 20000 in
theorem v_X3_sameSortAs_4 {G : Glob} {x1 : Int32} {x2 : Int32} {x3 : Int32} {M : Mem} {Q : Option Value → Mem → Prop}  (h : ((x3 < (M.1 12 2) → ((x3 = x1 → P_X3_sameSortAs_4 G x1 x2 (x3 + 1) M Q) ∧ (¬ x3 = x1 → (WpM G 2 Y_X3_isInside [.ref (ad G 12), .int x3] M (RI (fun r4 M3 => ((r4 = 0 → P_X3_sameSortAs_4 G x1 x2 (x3 + 1) M3 Q) ∧ (¬ r4 = 0 → (vp_in x3 8 ∧ (vp_in x1 8 ∧ (((M3.1 (55 + x3.toNatClampNeg) 1) = (M3.1 (55 + x1.toNatClampNeg) 1) → P_X3_sameSortAs_4 G x1 (x2 + 1) (x3 + 1) M3 Q) ∧ (¬ (M3.1 (55 + x3.toNatClampNeg) 1) = (M3.1 (55 + x1.toNatClampNeg) 1) → P_X3_sameSortAs_4 G x1 x2 (x3 + 1) M3 Q)))))))))))) ∧ (¬ x3 < (M.1 12 2) → Q (some (.int x2)) M))) : P_X3_sameSortAs_4 G x1 x2 x3 M Q := by
  refine wp_iload_n dX3_sameSortAs_4 rfl rfl ?_
  refine wp_aload_n dX3_sameSortAs_5 rfl rfl ?_
  refine wp_getI dX3_sameSortAs_6 rfl fb_3_2 m_1_151 ?_
  refine wp_icmp_ge (tgt := 55) dX3_sameSortAs_9 (by decide) (fun c1 => ?_) (fun c1 => ?_)
  · replace h := h.2 c1
    refine wp_iload_n dX3_sameSortAs_55 rfl rfl ?_
    exact wp_iret (ty := .int) dX3_sameSortAs_56 rfl rfl h
  · replace h := h.1 c1
    refine wp_iload_n dX3_sameSortAs_12 rfl rfl ?_
    refine wp_iload_n dX3_sameSortAs_13 rfl rfl ?_
    refine wp_icmp_eq (tgt := 49) dX3_sameSortAs_14 (by decide) (fun c2 => ?_) (fun c2 => ?_)
    · replace h := h.1 c2
      refine wp_iinc (v := (x3 + 1)) (ls' := [some (.ref (ad G 12)), some (.int x1), some (.int x2), some (.int (x3 + 1))]) dX3_sameSortAs_49 rfl rfl (by decide) rfl rfl ?_
      refine wp_goto (tgt := 4) dX3_sameSortAs_52 (by decide) ?_
      exact h
    · replace h := h.2 c2
      refine wp_aload_n dX3_sameSortAs_17 rfl rfl ?_
      refine wp_iload_n dX3_sameSortAs_18 rfl rfl ?_
      refine wp_callVI (a := 12) (d1 := 2) (As := [.int x3]) (st := []) dX3_sameSortAs_19 rfl cm_X3_isInside m_2_135 (by decide) rfl (Nat.le_of_ble_eq_true rfl) rfl h ?_
      intro r4 M3 h
      refine wp_if_eq (tgt := 49) dX3_sameSortAs_22 (by decide) (fun c5 => ?_) (fun c5 => ?_)
      · replace h := h.1 c5
        refine wp_iinc (v := (x3 + 1)) (ls' := [some (.ref (ad G 12)), some (.int x1), some (.int x2), some (.int (x3 + 1))]) dX3_sameSortAs_49 rfl rfl (by decide) rfl rfl ?_
        refine wp_goto (tgt := 4) dX3_sameSortAs_52 (by decide) ?_
        exact h
      · replace h := h.2 c5
        refine wp_aload_n dX3_sameSortAs_25 rfl rfl ?_
        refine wp_getR (b := 13) dX3_sameSortAs_26 rfl rfl fb_3_0 m_1_142 ?_
        refine wp_iload_n dX3_sameSortAs_29 rfl rfl ?_
        obtain ⟨b6, h⟩ := h
        refine wp_aald (b := (55 + x3.toNatClampNeg)) (n := 8) dX3_sameSortAs_30 rfl (by decide) rfl b6 rfl ?_
        have kb6 : kd (55 + x3.toNatClampNeg) = 4 := (kda_23 (a := 13) rfl (vp_lt b6))
        refine wp_getI dX3_sameSortAs_31 kb6 fb_4_1 m_1_114 ?_
        refine wp_aload_n dX3_sameSortAs_34 rfl rfl ?_
        refine wp_getR (b := 13) dX3_sameSortAs_35 rfl rfl fb_3_0 m_1_142 ?_
        refine wp_iload_n dX3_sameSortAs_38 rfl rfl ?_
        obtain ⟨b7, h⟩ := h
        refine wp_aald (b := (55 + x1.toNatClampNeg)) (n := 8) dX3_sameSortAs_39 rfl (by decide) rfl b7 rfl ?_
        have kb7 : kd (55 + x1.toNatClampNeg) = 4 := (kda_23 (a := 13) rfl (vp_lt b7))
        refine wp_getI dX3_sameSortAs_40 kb7 fb_4_1 m_1_114 ?_
        refine wp_icmp_ne (tgt := 49) dX3_sameSortAs_43 (by decide) (fun c8 => ?_) (fun c8 => ?_)
        · replace h := h.2 c8
          refine wp_iinc (v := (x3 + 1)) (ls' := [some (.ref (ad G 12)), some (.int x1), some (.int x2), some (.int (x3 + 1))]) dX3_sameSortAs_49 rfl rfl (by decide) rfl rfl ?_
          refine wp_goto (tgt := 4) dX3_sameSortAs_52 (by decide) ?_
          exact h
        · replace h := h.1 c8
          refine wp_iinc (v := (x2 + 1)) (ls' := [some (.ref (ad G 12)), some (.int x1), some (.int (x2 + 1)), some (.int x3)]) dX3_sameSortAs_46 rfl rfl (by decide) rfl rfl ?_
          refine wp_iinc (v := (x3 + 1)) (ls' := [some (.ref (ad G 12)), some (.int x1), some (.int (x2 + 1)), some (.int (x3 + 1))]) dX3_sameSortAs_49 rfl rfl (by decide) rfl rfl ?_
          refine wp_goto (tgt := 4) dX3_sameSortAs_52 (by decide) ?_
          exact h
abbrev C_X3_sameSortAs (G : Glob) (x1 : Int32) (M : Mem) (Q : Option Value → Mem → Prop) : Prop := WpM G 3 Y_X3_sameSortAs [.ref (ad G 12), .int x1] M Q
set_option maxRecDepth 20000 in
theorem v_X3_sameSortAs {G : Glob} {x1 : Int32} {M : Mem} {Q : Option Value → Mem → Prop}  (h : P_X3_sameSortAs_4 G x1 0 0 M Q) : C_X3_sameSortAs G x1 M Q := by
  refine wp_enter (ls0 := [some (.ref (ad G 12)), some (.int x1), none, none]) (by decide +kernel) (Nat.le_of_ble_eq_true rfl) rfl ?_
  refine wp_iconst (v := 0) dX3_sameSortAs_0 (by decide) ?_
  refine wp_istore_n (ls' := [some (.ref (ad G 12)), some (.int x1), some (.int 0), none]) dX3_sameSortAs_1 rfl (by decide) rfl rfl ?_
  refine wp_iconst (v := 0) dX3_sameSortAs_2 (by decide) ?_
  refine wp_istore_n (ls' := [some (.ref (ad G 12)), some (.int x1), some (.int 0), some (.int 0)]) dX3_sameSortAs_3 rfl (by decide) rfl rfl ?_
  exact h
abbrev C_X3_act (G : Glob) (x1 : Int32) (x2 : Int32) (x3 : Int32) (M : Mem) (Q : Option Value → Mem → Prop) : Prop := WpM G 3 Y_X3_act [.ref (ad G 12), .int x1, .int x2, .int x3] M Q
set_option maxRecDepth 20000 in
theorem v_X3_act {G : Glob} {x1 : Int32} {x2 : Int32} {x3 : Int32} {M : Mem} {Q : Option Value → Mem → Prop}  (h : (WpM G 1 Y_X2_add [.ref (ad G 14), .int x1, .int x2, .int x3] M (RV (fun M1 => (WpM G 2 Y_X3_carryOut [.ref (ad G 12), .int x1, .int x2, .int x3] M1 (RV (fun M2 => Q none M2))))))) : C_X3_act G x1 x2 x3 M Q := by
  refine wp_enter (ls0 := [some (.ref (ad G 12)), some (.int x1), some (.int x2), some (.int x3)]) (by decide +kernel) (Nat.le_of_ble_eq_true rfl) rfl ?_
  refine wp_aload_n dX3_act_0 rfl rfl ?_
  refine wp_getR (b := 14) dX3_act_1 rfl rfl fb_3_1 m_1_148 ?_
  refine wp_iload_n dX3_act_4 rfl rfl ?_
  refine wp_iload_n dX3_act_5 rfl rfl ?_
  refine wp_iload_n dX3_act_6 rfl rfl ?_
  refine wp_callVV (a := 14) (d1 := 1) (As := [.int x1, .int x2, .int x3]) (st := []) dX3_act_7 rfl cm_X2_add m_2_119 (by decide) rfl (Nat.le_of_ble_eq_true rfl) rfl h ?_
  intro M1 h
  refine wp_aload_n dX3_act_10 rfl rfl ?_
  refine wp_iload_n dX3_act_11 rfl rfl ?_
  refine wp_iload_n dX3_act_12 rfl rfl ?_
  refine wp_iload_n dX3_act_13 rfl rfl ?_
  refine wp_callVV (a := 12) (d1 := 2) (As := [.int x1, .int x2, .int x3]) (st := []) dX3_act_14 rfl cm_X3_carryOut m_2_123 (by decide) rfl (Nat.le_of_ble_eq_true rfl) rfl h ?_
  intro M2 h
  exact wp_vret dX3_act_17 rfl h
abbrev C_X3_actByLot (G : Glob) (x1 : Int64) (M : Mem) (Q : Option Value → Mem → Prop) : Prop := WpM G 5 Y_X3_actByLot [.ref (ad G 12), .long x1] M Q
set_option maxRecDepth 20000 in
theorem v_X3_actByLot {G : Glob} {x1 : Int64} {M : Mem} {Q : Option Value → Mem → Prop}  (h : (((0 : Int32) < (M.1 12 2) → (¬ (M.1 12 2).toInt64 = 0 ∧ (∀ y2 : Int32, y2 = (x1 - x1 / (M.1 12 2).toInt64 * (M.1 12 2).toInt64).toInt32 → (WpM G 3 Y_X3_canBeLost [.ref (ad G 12), .int y2] M (RI (fun r4 M3 => ((r4 = 0 → (vp_in y2 8 ∧ (((M3.1 (55 + y2.toNatClampNeg) 5) = 1 → (WpM G 3 Y_X3_hasRoom [.ref (ad G 12)] M3 (RI (fun r10 M9 => ((r10 = 0 → (WpM G 4 Y_X3_wearFirstPair [.ref (ad G 12)] M9 (RV (fun M12 => Q none M12)))) ∧ (¬ r10 = 0 → (WpM G 3 Y_X3_act [.ref (ad G 12), .int 3, .int y2, .int y2] M9 (RV (fun M13 => Q none M13))))))))) ∧ (¬ (M3.1 (55 + y2.toNatClampNeg) 5) = 1 → (WpM G 4 Y_X3_wearFirstPair [.ref (ad G 12)] M3 (RV (fun M8 => Q none M8))))))) ∧ (¬ r4 = 0 → (WpM G 3 Y_X3_act [.ref (ad G 12), .int 2, .int y2, .int y2] M3 (RV (fun M14 => Q none M14))))))))))) ∧ (¬ (0 : Int32) < (M.1 12 2) → Q none M))) : C_X3_actByLot G x1 M Q := by
  refine wp_enter (ls0 := [some (.ref (ad G 12)), some (.long x1), none, none]) (by decide +kernel) (Nat.le_of_ble_eq_true rfl) rfl ?_
  refine wp_aload_n dX3_actByLot_0 rfl rfl ?_
  refine wp_getI dX3_actByLot_1 rfl fb_3_2 m_1_151 ?_
  refine wp_if_gt (tgt := 8) dX3_actByLot_4 (by decide) (fun c1 => ?_) (fun c1 => ?_)
  · replace h := h.1 c1
    refine wp_lload_n dX3_actByLot_8 rfl rfl ?_
    refine wp_aload_n dX3_actByLot_9 rfl rfl ?_
    refine wp_getI dX3_actByLot_10 rfl fb_3_2 m_1_151 ?_
    refine wp_i2l dX3_actByLot_13 ?_
    refine wp_lrem dX3_actByLot_14 h.1 ?_
    replace h := h.2
    refine wp_l2i dX3_actByLot_15 ?_
    refine wp_topI (fun y2 hy2 => ?_)
    replace h := h y2 hy2
    refine wp_istore_n (ls' := [some (.ref (ad G 12)), some (.long x1), none, some (.int y2)]) dX3_actByLot_16 rfl (by decide) rfl rfl ?_
    refine wp_aload_n dX3_actByLot_17 rfl rfl ?_
    refine wp_iload_n dX3_actByLot_18 rfl rfl ?_
    refine wp_callVI (a := 12) (d1 := 3) (As := [.int y2]) (st := []) dX3_actByLot_19 rfl cm_X3_canBeLost m_2_221 (by decide) rfl (Nat.le_of_ble_eq_true rfl) rfl h ?_
    intro r4 M3 h
    refine wp_if_eq (tgt := 35) dX3_actByLot_22 (by decide) (fun c5 => ?_) (fun c5 => ?_)
    · replace h := h.1 c5
      refine wp_aload_n dX3_actByLot_35 rfl rfl ?_
      refine wp_getR (b := 13) dX3_actByLot_36 rfl rfl fb_3_0 m_1_142 ?_
      refine wp_iload_n dX3_actByLot_39 rfl rfl ?_
      obtain ⟨b6, h⟩ := h
      refine wp_aald (b := (55 + y2.toNatClampNeg)) (n := 8) dX3_actByLot_40 rfl (by decide) rfl b6 rfl ?_
      have kb6 : kd (55 + y2.toNatClampNeg) = 4 := (kda_23 (a := 13) rfl (vp_lt b6))
      refine wp_getI dX3_actByLot_41 kb6 fb_4_5 m_1_127 ?_
      refine wp_iconst (v := 1) dX3_actByLot_44 (by decide) ?_
      refine wp_icmp_ne (tgt := 65) dX3_actByLot_45 (by decide) (fun c7 => ?_) (fun c7 => ?_)
      · replace h := h.2 c7
        refine wp_aload_n dX3_actByLot_65 rfl rfl ?_
        refine wp_callVV (a := 12) (d1 := 4) (As := []) (st := []) dX3_actByLot_66 rfl cm_X3_wearFirstPair m_2_228 (by decide) rfl (Nat.le_of_ble_eq_true rfl) rfl h ?_
        intro M8 h
        exact wp_vret dX3_actByLot_69 rfl h
      · replace h := h.1 c7
        refine wp_aload_n dX3_actByLot_48 rfl rfl ?_
        refine wp_callVI (a := 12) (d1 := 3) (As := []) (st := []) dX3_actByLot_49 rfl cm_X3_hasRoom m_2_223 (by decide) rfl (Nat.le_of_ble_eq_true rfl) rfl h ?_
        intro r10 M9 h
        refine wp_if_eq (tgt := 65) dX3_actByLot_52 (by decide) (fun c11 => ?_) (fun c11 => ?_)
        · replace h := h.1 c11
          refine wp_aload_n dX3_actByLot_65 rfl rfl ?_
          refine wp_callVV (a := 12) (d1 := 4) (As := []) (st := []) dX3_actByLot_66 rfl cm_X3_wearFirstPair m_2_228 (by decide) rfl (Nat.le_of_ble_eq_true rfl) rfl h ?_
          intro M12 h
          exact wp_vret dX3_actByLot_69 rfl h
        · replace h := h.2 c11
          refine wp_aload_n dX3_actByLot_55 rfl rfl ?_
          refine wp_iconst (v := 3) dX3_actByLot_56 (by decide) ?_
          refine wp_iload_n dX3_actByLot_57 rfl rfl ?_
          refine wp_iload_n dX3_actByLot_58 rfl rfl ?_
          refine wp_callVV (a := 12) (d1 := 3) (As := [.int 3, .int y2, .int y2]) (st := []) dX3_actByLot_59 rfl cm_X3_act m_2_222 (by decide) rfl (Nat.le_of_ble_eq_true rfl) rfl h ?_
          intro M13 h
          refine wp_goto (tgt := 69) dX3_actByLot_62 (by decide) ?_
          exact wp_vret dX3_actByLot_69 rfl h
    · replace h := h.2 c5
      refine wp_aload_n dX3_actByLot_25 rfl rfl ?_
      refine wp_iconst (v := 2) dX3_actByLot_26 (by decide) ?_
      refine wp_iload_n dX3_actByLot_27 rfl rfl ?_
      refine wp_iload_n dX3_actByLot_28 rfl rfl ?_
      refine wp_callVV (a := 12) (d1 := 3) (As := [.int 2, .int y2, .int y2]) (st := []) dX3_actByLot_29 rfl cm_X3_act m_2_222 (by decide) rfl (Nat.le_of_ble_eq_true rfl) rfl h ?_
      intro M14 h
      refine wp_goto (tgt := 69) dX3_actByLot_32 (by decide) ?_
      exact wp_vret dX3_actByLot_69 rfl h
  · replace h := h.2 c1
    exact wp_vret dX3_actByLot_7 rfl h
abbrev P_X3_wearFirstPair_2 (G : Glob) (x1 : Int32) (M : Mem) (Q : Option Value → Mem → Prop) : Prop := Wp G 4 Y_X3_wearFirstPair 2 [some (.ref (ad G 12)), some (.int x1), none] [] M Q
abbrev P_X3_wearFirstPair_14 (G : Glob) (x1 : Int32) (x2 : Int32) (M : Mem) (Q : Option Value → Mem → Prop) : Prop := Wp G 4 Y_X3_wearFirstPair 14 [some (.ref (ad G 12)), some (.int x1), some (.int x2)] [] M Q
set_option maxRecDepth 20000 in
theorem v_X3_wearFirstPair_2 {G : Glob} {x1 : Int32} {M : Mem} {Q : Option Value → Mem → Prop}  (h : ((x1 < (M.1 12 2) → P_X3_wearFirstPair_14 G x1 (x1 + 1) M Q) ∧ (¬ x1 < (M.1 12 2) → (WpM G 3 Y_X3_act [.ref (ad G 12), .int 0, .int 0, .int 0] M (RV (fun M2 => Q none M2)))))) : P_X3_wearFirstPair_2 G x1 M Q := by
  refine wp_iload_n dX3_wearFirstPair_2 rfl rfl ?_
  refine wp_aload_n dX3_wearFirstPair_3 rfl rfl ?_
  refine wp_getI dX3_wearFirstPair_4 rfl fb_3_2 m_1_151 ?_
  refine wp_icmp_ge (tgt := 76) dX3_wearFirstPair_7 (by decide) (fun c1 => ?_) (fun c1 => ?_)
  · replace h := h.2 c1
    refine wp_aload_n dX3_wearFirstPair_76 rfl rfl ?_
    refine wp_iconst (v := 0) dX3_wearFirstPair_77 (by decide) ?_
    refine wp_iconst (v := 0) dX3_wearFirstPair_78 (by decide) ?_
    refine wp_iconst (v := 0) dX3_wearFirstPair_79 (by decide) ?_
    refine wp_callVV (a := 12) (d1 := 3) (As := [.int 0, .int 0, .int 0]) (st := []) dX3_wearFirstPair_80 rfl cm_X3_act m_2_222 (by decide) rfl (Nat.le_of_ble_eq_true rfl) rfl h ?_
    intro M2 h
    exact wp_vret dX3_wearFirstPair_83 rfl h
  · replace h := h.1 c1
    refine wp_iload_n dX3_wearFirstPair_10 rfl rfl ?_
    refine wp_iconst (v := 1) dX3_wearFirstPair_11 (by decide) ?_
    refine wp_iadd dX3_wearFirstPair_12 ?_
    refine wp_istore_n (ls' := [some (.ref (ad G 12)), some (.int x1), some (.int (x1 + 1))]) dX3_wearFirstPair_13 rfl (by decide) rfl rfl ?_
    exact h
set_option maxRecDepth 20000 in
theorem v_X3_wearFirstPair_14 {G : Glob} {x1 : Int32} {x2 : Int32} {M : Mem} {Q : Option Value → Mem → Prop}  (h : ((x2 < (M.1 12 2) → (WpM G 2 Y_X3_isInside [.ref (ad G 12), .int x1] M (RI (fun r3 M2 => ((r3 = 0 → P_X3_wearFirstPair_14 G x1 (x2 + 1) M2 Q) ∧ (¬ r3 = 0 → (WpM G 2 Y_X3_isInside [.ref (ad G 12), .int x2] M2 (RI (fun r6 M5 => ((r6 = 0 → P_X3_wearFirstPair_14 G x1 (x2 + 1) M5 Q) ∧ (¬ r6 = 0 → (vp_in x1 8 ∧ (vp_in x2 8 ∧ (WpM G 3 Y_X4_makesPairWith [.ref (ad G (55 + x1.toNatClampNeg)), .ref (ad G (55 + x2.toNatClampNeg))] M5 (RI (fun r11 M10 => ((r11 = 0 → P_X3_wearFirstPair_14 G x1 (x2 + 1) M10 Q) ∧ (¬ r11 = 0 → (WpM G 3 Y_X3_act [.ref (ad G 12), .int 1, .int x1, .int x2] M10 (RV (fun M13 => Q none M13))))))))))))))))))))) ∧ (¬ x2 < (M.1 12 2) → P_X3_wearFirstPair_2 G (x1 + 1) M Q))) : P_X3_wearFirstPair_14 G x1 x2 M Q := by
  refine wp_iload_n dX3_wearFirstPair_14 rfl rfl ?_
  refine wp_aload_n dX3_wearFirstPair_15 rfl rfl ?_
  refine wp_getI dX3_wearFirstPair_16 rfl fb_3_2 m_1_151 ?_
  refine wp_icmp_ge (tgt := 70) dX3_wearFirstPair_19 (by decide) (fun c1 => ?_) (fun c1 => ?_)
  · replace h := h.2 c1
    refine wp_iinc (v := (x1 + 1)) (ls' := [some (.ref (ad G 12)), some (.int (x1 + 1)), some (.int x2)]) dX3_wearFirstPair_70 rfl rfl (by decide) rfl rfl ?_
    refine wp_goto (tgt := 2) dX3_wearFirstPair_73 (by decide) ?_
    exact wp_mask [true, true, false] rfl h
  · replace h := h.1 c1
    refine wp_aload_n dX3_wearFirstPair_22 rfl rfl ?_
    refine wp_iload_n dX3_wearFirstPair_23 rfl rfl ?_
    refine wp_callVI (a := 12) (d1 := 2) (As := [.int x1]) (st := []) dX3_wearFirstPair_24 rfl cm_X3_isInside m_2_135 (by decide) rfl (Nat.le_of_ble_eq_true rfl) rfl h ?_
    intro r3 M2 h
    refine wp_if_eq (tgt := 64) dX3_wearFirstPair_27 (by decide) (fun c4 => ?_) (fun c4 => ?_)
    · replace h := h.1 c4
      refine wp_iinc (v := (x2 + 1)) (ls' := [some (.ref (ad G 12)), some (.int x1), some (.int (x2 + 1))]) dX3_wearFirstPair_64 rfl rfl (by decide) rfl rfl ?_
      refine wp_goto (tgt := 14) dX3_wearFirstPair_67 (by decide) ?_
      exact h
    · replace h := h.2 c4
      refine wp_aload_n dX3_wearFirstPair_30 rfl rfl ?_
      refine wp_iload_n dX3_wearFirstPair_31 rfl rfl ?_
      refine wp_callVI (a := 12) (d1 := 2) (As := [.int x2]) (st := []) dX3_wearFirstPair_32 rfl cm_X3_isInside m_2_135 (by decide) rfl (Nat.le_of_ble_eq_true rfl) rfl h ?_
      intro r6 M5 h
      refine wp_if_eq (tgt := 64) dX3_wearFirstPair_35 (by decide) (fun c7 => ?_) (fun c7 => ?_)
      · replace h := h.1 c7
        refine wp_iinc (v := (x2 + 1)) (ls' := [some (.ref (ad G 12)), some (.int x1), some (.int (x2 + 1))]) dX3_wearFirstPair_64 rfl rfl (by decide) rfl rfl ?_
        refine wp_goto (tgt := 14) dX3_wearFirstPair_67 (by decide) ?_
        exact h
      · replace h := h.2 c7
        refine wp_aload_n dX3_wearFirstPair_38 rfl rfl ?_
        refine wp_getR (b := 13) dX3_wearFirstPair_39 rfl rfl fb_3_0 m_1_142 ?_
        refine wp_iload_n dX3_wearFirstPair_42 rfl rfl ?_
        obtain ⟨b8, h⟩ := h
        refine wp_aald (b := (55 + x1.toNatClampNeg)) (n := 8) dX3_wearFirstPair_43 rfl (by decide) rfl b8 rfl ?_
        have kb8 : kd (55 + x1.toNatClampNeg) = 4 := (kda_23 (a := 13) rfl (vp_lt b8))
        refine wp_aload_n dX3_wearFirstPair_44 rfl rfl ?_
        refine wp_getR (b := 13) dX3_wearFirstPair_45 rfl rfl fb_3_0 m_1_142 ?_
        refine wp_iload_n dX3_wearFirstPair_48 rfl rfl ?_
        obtain ⟨b9, h⟩ := h
        refine wp_aald (b := (55 + x2.toNatClampNeg)) (n := 8) dX3_wearFirstPair_49 rfl (by decide) rfl b9 rfl ?_
        have kb9 : kd (55 + x2.toNatClampNeg) = 4 := (kda_23 (a := 13) rfl (vp_lt b9))
        refine wp_callVI (a := (55 + x1.toNatClampNeg)) (d1 := 3) (As := [.ref (ad G (55 + x2.toNatClampNeg))]) (st := []) dX3_wearFirstPair_50 kb8 cm_X4_makesPairWith m_2_232 (by decide) rfl (Nat.le_of_ble_eq_true rfl) rfl h ?_
        intro r11 M10 h
        refine wp_if_eq (tgt := 64) dX3_wearFirstPair_53 (by decide) (fun c12 => ?_) (fun c12 => ?_)
        · replace h := h.1 c12
          refine wp_iinc (v := (x2 + 1)) (ls' := [some (.ref (ad G 12)), some (.int x1), some (.int (x2 + 1))]) dX3_wearFirstPair_64 rfl rfl (by decide) rfl rfl ?_
          refine wp_goto (tgt := 14) dX3_wearFirstPair_67 (by decide) ?_
          exact h
        · replace h := h.2 c12
          refine wp_aload_n dX3_wearFirstPair_56 rfl rfl ?_
          refine wp_iconst (v := 1) dX3_wearFirstPair_57 (by decide) ?_
          refine wp_iload_n dX3_wearFirstPair_58 rfl rfl ?_
          refine wp_iload_n dX3_wearFirstPair_59 rfl rfl ?_
          refine wp_callVV (a := 12) (d1 := 3) (As := [.int 1, .int x1, .int x2]) (st := []) dX3_wearFirstPair_60 rfl cm_X3_act m_2_222 (by decide) rfl (Nat.le_of_ble_eq_true rfl) rfl h ?_
          intro M13 h
          exact wp_vret dX3_wearFirstPair_63 rfl h
abbrev C_X3_wearFirstPair (G : Glob)  (M : Mem) (Q : Option Value → Mem → Prop) : Prop := WpM G 4 Y_X3_wearFirstPair [.ref (ad G 12)] M Q
set_option maxRecDepth 20000 in
theorem v_X3_wearFirstPair {G : Glob} {M : Mem} {Q : Option Value → Mem → Prop}  (h : P_X3_wearFirstPair_2 G 0 M Q) : C_X3_wearFirstPair G  M Q := by
  refine wp_enter (ls0 := [some (.ref (ad G 12)), none, none]) (by decide +kernel) (Nat.le_of_ble_eq_true rfl) rfl ?_
  refine wp_iconst (v := 0) dX3_wearFirstPair_0 (by decide) ?_
  refine wp_istore_n (ls' := [some (.ref (ad G 12)), some (.int 0), none]) dX3_wearFirstPair_1 rfl (by decide) rfl rfl ?_
  exact h
abbrev P_X3_replay_2 (G : Glob) (x1 : Int32) (M : Mem) (Q : Option Value → Mem → Prop) : Prop := Wp G 3 Y_X3_replay 2 [some (.ref (ad G 12)), some (.int x1), none] [] M Q
abbrev P_X3_replay_38 (G : Glob) (x1 : Int32) (M : Mem) (Q : Option Value → Mem → Prop) : Prop := Wp G 3 Y_X3_replay 38 [some (.ref (ad G 12)), some (.int x1), none] [] M Q
set_option maxRecDepth 20000 in
theorem v_X3_replay_2 {G : Glob} {x1 : Int32} {M : Mem} {Q : Option Value → Mem → Prop}  (h : ((x1 < (M.1 12 2) → (vp_in x1 8 ∧ (∀ M3 : Mem, M3 = upI M (55 + x1.toNatClampNeg) 4 0 → (vp_in x1 8 ∧ (∀ M5 : Mem, M5 = upI M3 (55 + x1.toNatClampNeg) 5 0 → P_X3_replay_2 G (x1 + 1) M5 Q))))) ∧ (¬ x1 < (M.1 12 2) → P_X3_replay_38 G 0 M Q))) : P_X3_replay_2 G x1 M Q := by
  refine wp_iload_n dX3_replay_2 rfl rfl ?_
  refine wp_aload_n dX3_replay_3 rfl rfl ?_
  refine wp_getI dX3_replay_4 rfl fb_3_2 m_1_151 ?_
  refine wp_icmp_ge (tgt := 36) dX3_replay_7 (by decide) (fun c1 => ?_) (fun c1 => ?_)
  · replace h := h.2 c1
    refine wp_iconst (v := 0) dX3_replay_36 (by decide) ?_
    refine wp_istore_n (ls' := [some (.ref (ad G 12)), some (.int 0), none]) dX3_replay_37 rfl (by decide) rfl rfl ?_
    exact h
  · replace h := h.1 c1
    refine wp_aload_n dX3_replay_10 rfl rfl ?_
    refine wp_getR (b := 13) dX3_replay_11 rfl rfl fb_3_0 m_1_142 ?_
    refine wp_iload_n dX3_replay_14 rfl rfl ?_
    obtain ⟨b2, h⟩ := h
    refine wp_aald (b := (55 + x1.toNatClampNeg)) (n := 8) dX3_replay_15 rfl (by decide) rfl b2 rfl ?_
    have kb2 : kd (55 + x1.toNatClampNeg) = 4 := (kda_23 (a := 13) rfl (vp_lt b2))
    refine wp_iconst (v := 0) dX3_replay_16 (by decide) ?_
    refine wp_putI dX3_replay_17 kb2 fp_4_4 m_1_124 ?_
    refine wp_topM (fun M3 hM3 => ?_)
    replace h := h M3 hM3
    refine wp_aload_n dX3_replay_20 rfl rfl ?_
    refine wp_getR (b := 13) dX3_replay_21 rfl rfl fb_3_0 m_1_142 ?_
    refine wp_iload_n dX3_replay_24 rfl rfl ?_
    obtain ⟨b4, h⟩ := h
    refine wp_aald (b := (55 + x1.toNatClampNeg)) (n := 8) dX3_replay_25 rfl (by decide) rfl b4 rfl ?_
    have kb4 : kd (55 + x1.toNatClampNeg) = 4 := (kda_23 (a := 13) rfl (vp_lt b4))
    refine wp_iconst (v := 0) dX3_replay_26 (by decide) ?_
    refine wp_putI dX3_replay_27 kb4 fp_4_5 m_1_127 ?_
    refine wp_topM (fun M5 hM5 => ?_)
    replace h := h M5 hM5
    refine wp_iinc (v := (x1 + 1)) (ls' := [some (.ref (ad G 12)), some (.int (x1 + 1)), none]) dX3_replay_30 rfl rfl (by decide) rfl rfl ?_
    refine wp_goto (tgt := 2) dX3_replay_33 (by decide) ?_
    exact h
set_option maxRecDepth 20000 in
theorem v_X3_replay_38 {G : Glob} {x1 : Int32} {M : Mem} {Q : Option Value → Mem → Prop}  (h : ((x1 < (M.1 14 1) → (vp_in x1 40 ∧ (∀ y3 : Int32, y3 = (M.1 15 x1.toNatClampNeg) → (WpM G 2 Y_X3_carryOut [.ref (ad G 12), .int (y3 / 100), .int ((y3 / 10) - (y3 / 10) / 10 * 10), .int (y3 - y3 / 10 * 10)] M (RV (fun M4 => P_X3_replay_38 G (x1 + 1) M4 Q)))))) ∧ (¬ x1 < (M.1 14 1) → Q none M))) : P_X3_replay_38 G x1 M Q := by
  refine wp_iload_n dX3_replay_38 rfl rfl ?_
  refine wp_aload_n dX3_replay_39 rfl rfl ?_
  refine wp_getR (b := 14) dX3_replay_40 rfl rfl fb_3_1 m_1_148 ?_
  refine wp_getI dX3_replay_43 rfl fb_2_1 m_1_97 ?_
  refine wp_icmp_ge (tgt := 84) dX3_replay_46 (by decide) (fun c1 => ?_) (fun c1 => ?_)
  · replace h := h.2 c1
    exact wp_vret dX3_replay_84 rfl h
  · replace h := h.1 c1
    refine wp_aload_n dX3_replay_49 rfl rfl ?_
    refine wp_getR (b := 14) dX3_replay_50 rfl rfl fb_3_1 m_1_148 ?_
    refine wp_getR (b := 15) dX3_replay_53 rfl rfl fb_2_0 m_1_94 ?_
    refine wp_iload_n dX3_replay_56 rfl rfl ?_
    obtain ⟨b2, h⟩ := h
    refine wp_iald (n := 40) dX3_replay_57 rfl rfl b2 ?_
    refine wp_topI (fun y3 hy3 => ?_)
    replace h := h y3 hy3
    refine wp_istore_n (ls' := [some (.ref (ad G 12)), some (.int x1), some (.int y3)]) dX3_replay_58 rfl (by decide) rfl rfl ?_
    refine wp_aload_n dX3_replay_59 rfl rfl ?_
    refine wp_iload_n dX3_replay_60 rfl rfl ?_
    refine wp_bipush (v := 100) dX3_replay_61 (by decide) ?_
    refine wp_idiv dX3_replay_63 (by decide) ?_
    refine wp_iload_n dX3_replay_64 rfl rfl ?_
    refine wp_bipush (v := 10) dX3_replay_65 (by decide) ?_
    refine wp_idiv dX3_replay_67 (by decide) ?_
    refine wp_bipush (v := 10) dX3_replay_68 (by decide) ?_
    refine wp_irem dX3_replay_70 (by decide) ?_
    refine wp_iload_n dX3_replay_71 rfl rfl ?_
    refine wp_bipush (v := 10) dX3_replay_72 (by decide) ?_
    refine wp_irem dX3_replay_74 (by decide) ?_
    refine wp_callVV (a := 12) (d1 := 2) (As := [.int (y3 / 100), .int ((y3 / 10) - (y3 / 10) / 10 * 10), .int (y3 - y3 / 10 * 10)]) (st := []) dX3_replay_75 rfl cm_X3_carryOut m_2_123 (by decide) rfl (Nat.le_of_ble_eq_true rfl) rfl h ?_
    intro M4 h
    refine wp_iinc (v := (x1 + 1)) (ls' := [some (.ref (ad G 12)), some (.int (x1 + 1)), some (.int y3)]) dX3_replay_78 rfl rfl (by decide) rfl rfl ?_
    refine wp_goto (tgt := 38) dX3_replay_81 (by decide) ?_
    exact wp_mask [true, true, false] rfl h
abbrev C_X3_replay (G : Glob)  (M : Mem) (Q : Option Value → Mem → Prop) : Prop := WpM G 3 Y_X3_replay [.ref (ad G 12)] M Q
set_option maxRecDepth 20000 in
theorem v_X3_replay {G : Glob} {M : Mem} {Q : Option Value → Mem → Prop}  (h : P_X3_replay_2 G 0 M Q) : C_X3_replay G  M Q := by
  refine wp_enter (ls0 := [some (.ref (ad G 12)), none, none]) (by decide +kernel) (Nat.le_of_ble_eq_true rfl) rfl ?_
  refine wp_iconst (v := 0) dX3_replay_0 (by decide) ?_
  refine wp_istore_n (ls' := [some (.ref (ad G 12)), some (.int 0), none]) dX3_replay_1 rfl (by decide) rfl rfl ?_
  exact h
abbrev C_X3_carryOut (G : Glob) (x1 : Int32) (x2 : Int32) (x3 : Int32) (M : Mem) (Q : Option Value → Mem → Prop) : Prop := WpM G 2 Y_X3_carryOut [.ref (ad G 12), .int x1, .int x2, .int x3] M Q
set_option maxRecDepth 20000 in
theorem v_X3_carryOut {G : Glob} {x1 : Int32} {x2 : Int32} {x3 : Int32} {M : Mem} {Q : Option Value → Mem → Prop}  (h : (WpM G 1 Y_X3_has [.ref (ad G 12), .int x2] M (RI (fun r2 M1 => ((r2 = 0 → Q none M1) ∧ (¬ r2 = 0 → (WpM G 1 Y_X3_has [.ref (ad G 12), .int x3] M1 (RI (fun r5 M4 => ((r5 = 0 → Q none M4) ∧ (¬ r5 = 0 → ((x1 = 1 → (vp_in x2 8 ∧ (∀ M8 : Mem, M8 = upI M4 (55 + x2.toNatClampNeg) 4 ((M4.1 (55 + x2.toNatClampNeg) 4) + 1) → (vp_in x3 8 ∧ (∀ M10 : Mem, M10 = upI M8 (55 + x3.toNatClampNeg) 4 ((M8.1 (55 + x3.toNatClampNeg) 4) + 1) → Q none M10))))) ∧ (¬ x1 = 1 → ((x1 = 2 → (vp_in x2 8 ∧ (∀ M12 : Mem, M12 = upI M4 (55 + x2.toNatClampNeg) 5 1 → Q none M12))) ∧ (¬ x1 = 2 → ((x1 = 3 → (vp_in x2 8 ∧ (∀ M14 : Mem, M14 = upI M4 (55 + x2.toNatClampNeg) 5 0 → Q none M14))) ∧ (¬ x1 = 3 → ((x1 = 4 → (vp_in x2 8 ∧ (∀ M16 : Mem, M16 = upI M4 (55 + x2.toNatClampNeg) 5 2 → Q none M16))) ∧ (¬ x1 = 4 → Q none M4))))))))))))))))))) : C_X3_carryOut G x1 x2 x3 M Q := by
  refine wp_enter (ls0 := [some (.ref (ad G 12)), some (.int x1), some (.int x2), some (.int x3)]) (by decide +kernel) (Nat.le_of_ble_eq_true rfl) rfl ?_
  refine wp_aload_n dX3_carryOut_0 rfl rfl ?_
  refine wp_iload_n dX3_carryOut_1 rfl rfl ?_
  refine wp_callVI (a := 12) (d1 := 1) (As := [.int x2]) (st := []) dX3_carryOut_2 rfl cm_X3_has m_2_110 (by decide) rfl (Nat.le_of_ble_eq_true rfl) rfl h ?_
  intro r2 M1 h
  refine wp_if_eq (tgt := 16) dX3_carryOut_5 (by decide) (fun c3 => ?_) (fun c3 => ?_)
  · replace h := h.1 c3
    exact wp_vret dX3_carryOut_16 rfl h
  · replace h := h.2 c3
    refine wp_aload_n dX3_carryOut_8 rfl rfl ?_
    refine wp_iload_n dX3_carryOut_9 rfl rfl ?_
    refine wp_callVI (a := 12) (d1 := 1) (As := [.int x3]) (st := []) dX3_carryOut_10 rfl cm_X3_has m_2_110 (by decide) rfl (Nat.le_of_ble_eq_true rfl) rfl h ?_
    intro r5 M4 h
    refine wp_if_ne (tgt := 17) dX3_carryOut_13 (by decide) (fun c6 => ?_) (fun c6 => ?_)
    · replace h := h.2 c6
      refine wp_iload_n dX3_carryOut_17 rfl rfl ?_
      rcases Decidable.em (x1 = 1) with n0 | n0
      · replace h := h.1 n0
        refine wp_tswI (tgt := 48) (v := 1) dX3_carryOut_18 n0 (by decide) (by decide) rfl (by decide) ?_
        refine wp_aload_n dX3_carryOut_48 rfl rfl ?_
        refine wp_getR (b := 13) dX3_carryOut_49 rfl rfl fb_3_0 m_1_142 ?_
        refine wp_iload_n dX3_carryOut_52 rfl rfl ?_
        obtain ⟨b7, h⟩ := h
        refine wp_aald (b := (55 + x2.toNatClampNeg)) (n := 8) dX3_carryOut_53 rfl (by decide) rfl b7 rfl ?_
        have kb7 : kd (55 + x2.toNatClampNeg) = 4 := (kda_23 (a := 13) rfl (vp_lt b7))
        refine wp_dup dX3_carryOut_54 rfl ?_
        refine wp_getI dX3_carryOut_55 kb7 fb_4_4 m_1_124 ?_
        refine wp_iconst (v := 1) dX3_carryOut_58 (by decide) ?_
        refine wp_iadd dX3_carryOut_59 ?_
        refine wp_putI dX3_carryOut_60 kb7 fp_4_4 m_1_124 ?_
        refine wp_topM (fun M8 hM8 => ?_)
        replace h := h M8 hM8
        refine wp_aload_n dX3_carryOut_63 rfl rfl ?_
        refine wp_getR (b := 13) dX3_carryOut_64 rfl rfl fb_3_0 m_1_142 ?_
        refine wp_iload_n dX3_carryOut_67 rfl rfl ?_
        obtain ⟨b9, h⟩ := h
        refine wp_aald (b := (55 + x3.toNatClampNeg)) (n := 8) dX3_carryOut_68 rfl (by decide) rfl b9 rfl ?_
        have kb9 : kd (55 + x3.toNatClampNeg) = 4 := (kda_23 (a := 13) rfl (vp_lt b9))
        refine wp_dup dX3_carryOut_69 rfl ?_
        refine wp_getI dX3_carryOut_70 kb9 fb_4_4 m_1_124 ?_
        refine wp_iconst (v := 1) dX3_carryOut_73 (by decide) ?_
        refine wp_iadd dX3_carryOut_74 ?_
        refine wp_putI dX3_carryOut_75 kb9 fp_4_4 m_1_124 ?_
        refine wp_topM (fun M10 hM10 => ?_)
        replace h := h M10 hM10
        refine wp_goto (tgt := 120) dX3_carryOut_78 (by decide) ?_
        exact wp_vret dX3_carryOut_120 rfl h
      · replace h := h.2 n0
        rcases Decidable.em (x1 = 2) with n1 | n1
        · replace h := h.1 n1
          refine wp_tswI (tgt := 81) (v := 2) dX3_carryOut_18 n1 (by decide) (by decide) rfl (by decide) ?_
          refine wp_aload_n dX3_carryOut_81 rfl rfl ?_
          refine wp_getR (b := 13) dX3_carryOut_82 rfl rfl fb_3_0 m_1_142 ?_
          refine wp_iload_n dX3_carryOut_85 rfl rfl ?_
          obtain ⟨b11, h⟩ := h
          refine wp_aald (b := (55 + x2.toNatClampNeg)) (n := 8) dX3_carryOut_86 rfl (by decide) rfl b11 rfl ?_
          have kb11 : kd (55 + x2.toNatClampNeg) = 4 := (kda_23 (a := 13) rfl (vp_lt b11))
          refine wp_iconst (v := 1) dX3_carryOut_87 (by decide) ?_
          refine wp_putI dX3_carryOut_88 kb11 fp_4_5 m_1_127 ?_
          refine wp_topM (fun M12 hM12 => ?_)
          replace h := h M12 hM12
          refine wp_goto (tgt := 120) dX3_carryOut_91 (by decide) ?_
          exact wp_vret dX3_carryOut_120 rfl h
        · replace h := h.2 n1
          rcases Decidable.em (x1 = 3) with n2 | n2
          · replace h := h.1 n2
            refine wp_tswI (tgt := 94) (v := 3) dX3_carryOut_18 n2 (by decide) (by decide) rfl (by decide) ?_
            refine wp_aload_n dX3_carryOut_94 rfl rfl ?_
            refine wp_getR (b := 13) dX3_carryOut_95 rfl rfl fb_3_0 m_1_142 ?_
            refine wp_iload_n dX3_carryOut_98 rfl rfl ?_
            obtain ⟨b13, h⟩ := h
            refine wp_aald (b := (55 + x2.toNatClampNeg)) (n := 8) dX3_carryOut_99 rfl (by decide) rfl b13 rfl ?_
            have kb13 : kd (55 + x2.toNatClampNeg) = 4 := (kda_23 (a := 13) rfl (vp_lt b13))
            refine wp_iconst (v := 0) dX3_carryOut_100 (by decide) ?_
            refine wp_putI dX3_carryOut_101 kb13 fp_4_5 m_1_127 ?_
            refine wp_topM (fun M14 hM14 => ?_)
            replace h := h M14 hM14
            refine wp_goto (tgt := 120) dX3_carryOut_104 (by decide) ?_
            exact wp_vret dX3_carryOut_120 rfl h
          · replace h := h.2 n2
            rcases Decidable.em (x1 = 4) with n3 | n3
            · replace h := h.1 n3
              refine wp_tswI (tgt := 107) (v := 4) dX3_carryOut_18 n3 (by decide) (by decide) rfl (by decide) ?_
              refine wp_aload_n dX3_carryOut_107 rfl rfl ?_
              refine wp_getR (b := 13) dX3_carryOut_108 rfl rfl fb_3_0 m_1_142 ?_
              refine wp_iload_n dX3_carryOut_111 rfl rfl ?_
              obtain ⟨b15, h⟩ := h
              refine wp_aald (b := (55 + x2.toNatClampNeg)) (n := 8) dX3_carryOut_112 rfl (by decide) rfl b15 rfl ?_
              have kb15 : kd (55 + x2.toNatClampNeg) = 4 := (kda_23 (a := 13) rfl (vp_lt b15))
              refine wp_iconst (v := 2) dX3_carryOut_113 (by decide) ?_
              refine wp_putI dX3_carryOut_114 kb15 fp_4_5 m_1_127 ?_
              refine wp_topM (fun M16 hM16 => ?_)
              replace h := h M16 hM16
              refine wp_goto (tgt := 120) dX3_carryOut_117 (by decide) ?_
              exact wp_vret dX3_carryOut_120 rfl h
            · replace h := h.2 n3
              refine wp_tswD (tgt := 120) dX3_carryOut_18 (by have e0 : (x1 : Int32).toInt ≠ 1 := fun e => n0 (Int32.toInt_inj.mp e); have e1 : (x1 : Int32).toInt ≠ 2 := fun e => n1 (Int32.toInt_inj.mp e); have e2 : (x1 : Int32).toInt ≠ 3 := fun e => n2 (Int32.toInt_inj.mp e); have e3 : (x1 : Int32).toInt ≠ 4 := fun e => n3 (Int32.toInt_inj.mp e); omega) (by decide) ?_
              exact wp_vret dX3_carryOut_120 rfl h
    · replace h := h.1 c6
      exact wp_vret dX3_carryOut_16 rfl h
