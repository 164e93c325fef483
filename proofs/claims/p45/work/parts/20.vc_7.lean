abbrev P_X7_faultOf_80 (G : Glob) (x2 : Int32) (x3 : Int32) (x4 : Int32) (M : Mem) (Q : Option Value → Mem → Prop) : Prop := Wp G 7 Y_X7_faultOf 80 [some (.ref (ad G 7)), some (.ref (ad G 4)), some (.int x2), some (.int x3), some (.int x4), none] [] M Q
set_option maxRecDepth 20000 in
theorem v_X7_faultOf_80 {G : Glob} {x2 : Int32} {x3 : Int32} {x4 : Int32} {M : Mem} {Q : Option Value → Mem → Prop}  (h : (((M.1 7 4) < 8 → ((x4 < x3 → (WpM G 6 Y_X7_faultOfGlove [.ref (ad G 7), .ref (ad G 4), .int x2, .int x4] M (RI (fun r8 M7 => ((r8 = (-9 : Int32) → (WpM G 5 Y_X7_pastBlanks [.ref (ad G 4), .int x2, .int (x4 + 4)] M7 (RI (fun r11 M10 => (∀ M12 : Mem, M12 = upI M10 7 4 ((M10.1 7 4) + 1) → P_X7_faultOf_80 G x2 x3 r11 M12 Q))))) ∧ (¬ r8 = (-9 : Int32) → Q (some (.int r8)) M7)))))) ∧ (¬ x4 < x3 → ((x4 < x3 → Q (some (.int x4)) M) ∧ (¬ x4 < x3 → (((M.1 7 4) = 0 → Q (some (.int x4)) M) ∧ (¬ (M.1 7 4) = 0 → Q (some (.int (-9 : Int32))) M))))))) ∧ (¬ (M.1 7 4) < 8 → ((x4 < x3 → Q (some (.int x4)) M) ∧ (¬ x4 < x3 → (((M.1 7 4) = 0 → Q (some (.int x4)) M) ∧ (¬ (M.1 7 4) = 0 → Q (some (.int (-9 : Int32))) M))))))) : P_X7_faultOf_80 G x2 x3 x4 M Q := by
  refine wp_aload_n dX7_faultOf_80 rfl rfl ?_
  refine wp_getI dX7_faultOf_81 rfl fb_7_4 m_1_62 ?_
  refine wp_bipush (v := 8) dX7_faultOf_84 (by decide) ?_
  refine wp_icmp_ge (tgt := 139) dX7_faultOf_86 (by decide) (fun c1 => ?_) (fun c1 => ?_)
  · replace h := h.2 c1
    refine wp_iload dX7_faultOf_139 rfl ?_
    refine wp_iload_n dX7_faultOf_141 rfl rfl ?_
    refine wp_icmp_lt (tgt := 152) dX7_faultOf_142 (by decide) (fun c2 => ?_) (fun c2 => ?_)
    · replace h := h.1 c2
      refine wp_iload dX7_faultOf_152 rfl ?_
      refine wp_goto (tgt := 159) dX7_faultOf_154 (by decide) ?_
      exact wp_iret (ty := .int) dX7_faultOf_159 rfl rfl h
    · replace h := h.2 c2
      refine wp_aload_n dX7_faultOf_145 rfl rfl ?_
      refine wp_getI dX7_faultOf_146 rfl fb_7_4 m_1_62 ?_
      refine wp_if_ne (tgt := 157) dX7_faultOf_149 (by decide) (fun c3 => ?_) (fun c3 => ?_)
      · replace h := h.2 c3
        refine wp_bipush (v := (-9 : Int32)) dX7_faultOf_157 (by decide) ?_
        exact wp_iret (ty := .int) dX7_faultOf_159 rfl rfl h
      · replace h := h.1 c3
        refine wp_iload dX7_faultOf_152 rfl ?_
        refine wp_goto (tgt := 159) dX7_faultOf_154 (by decide) ?_
        exact wp_iret (ty := .int) dX7_faultOf_159 rfl rfl h
  · replace h := h.1 c1
    refine wp_iload dX7_faultOf_89 rfl ?_
    refine wp_iload_n dX7_faultOf_91 rfl rfl ?_
    refine wp_icmp_ge (tgt := 139) dX7_faultOf_92 (by decide) (fun c4 => ?_) (fun c4 => ?_)
    · replace h := h.2 c4
      refine wp_iload dX7_faultOf_139 rfl ?_
      refine wp_iload_n dX7_faultOf_141 rfl rfl ?_
      refine wp_icmp_lt (tgt := 152) dX7_faultOf_142 (by decide) (fun c5 => ?_) (fun c5 => ?_)
      · replace h := h.1 c5
        refine wp_iload dX7_faultOf_152 rfl ?_
        refine wp_goto (tgt := 159) dX7_faultOf_154 (by decide) ?_
        exact wp_iret (ty := .int) dX7_faultOf_159 rfl rfl h
      · replace h := h.2 c5
        refine wp_aload_n dX7_faultOf_145 rfl rfl ?_
        refine wp_getI dX7_faultOf_146 rfl fb_7_4 m_1_62 ?_
        refine wp_if_ne (tgt := 157) dX7_faultOf_149 (by decide) (fun c6 => ?_) (fun c6 => ?_)
        · replace h := h.2 c6
          refine wp_bipush (v := (-9 : Int32)) dX7_faultOf_157 (by decide) ?_
          exact wp_iret (ty := .int) dX7_faultOf_159 rfl rfl h
        · replace h := h.1 c6
          refine wp_iload dX7_faultOf_152 rfl ?_
          refine wp_goto (tgt := 159) dX7_faultOf_154 (by decide) ?_
          exact wp_iret (ty := .int) dX7_faultOf_159 rfl rfl h
    · replace h := h.1 c4
      refine wp_aload_n dX7_faultOf_95 rfl rfl ?_
      refine wp_aload_n dX7_faultOf_96 rfl rfl ?_
      refine wp_iload_n dX7_faultOf_97 rfl rfl ?_
      refine wp_iload dX7_faultOf_98 rfl ?_
      refine wp_callVI (a := 7) (d1 := 6) (As := [.ref (ad G 4), .int x2, .int x4]) (st := []) dX7_faultOf_100 rfl cm_X7_faultOfGlove m_3_160 (by decide) rfl (Nat.le_of_ble_eq_true rfl) rfl h ?_
      intro r8 M7 h
      refine wp_istore (ls' := [some (.ref (ad G 7)), some (.ref (ad G 4)), some (.int x2), some (.int x3), some (.int x4), some (.int r8)]) dX7_faultOf_103 (by decide) rfl rfl ?_
      refine wp_iload dX7_faultOf_105 rfl ?_
      refine wp_bipush (v := (-9 : Int32)) dX7_faultOf_107 (by decide) ?_
      refine wp_icmp_eq (tgt := 115) dX7_faultOf_109 (by decide) (fun c9 => ?_) (fun c9 => ?_)
      · replace h := h.1 c9
        refine wp_aload_n dX7_faultOf_115 rfl rfl ?_
        refine wp_iload_n dX7_faultOf_116 rfl rfl ?_
        refine wp_iload dX7_faultOf_117 rfl ?_
        refine wp_iconst (v := 4) dX7_faultOf_119 (by decide) ?_
        refine wp_iadd dX7_faultOf_120 ?_
        refine wp_callSI (d1 := 5) (As := [.ref (ad G 4), .int x2, .int (x4 + 4)]) (st := []) dX7_faultOf_121 cm_X7_pastBlanks m_3_152 (by decide) rfl (Nat.le_of_ble_eq_true rfl) rfl h ?_
        intro r11 M10 h
        refine wp_istore (ls' := [some (.ref (ad G 7)), some (.ref (ad G 4)), some (.int x2), some (.int x3), some (.int r11), some (.int r8)]) dX7_faultOf_124 (by decide) rfl rfl ?_
        refine wp_aload_n dX7_faultOf_126 rfl rfl ?_
        refine wp_dup dX7_faultOf_127 rfl ?_
        refine wp_getI dX7_faultOf_128 rfl fb_7_4 m_1_62 ?_
        refine wp_iconst (v := 1) dX7_faultOf_131 (by decide) ?_
        refine wp_iadd dX7_faultOf_132 ?_
        refine wp_putI dX7_faultOf_133 rfl fp_7_4 m_1_62 ?_
        refine wp_topM (fun M12 hM12 => ?_)
        replace h := h M12 hM12
        refine wp_goto (tgt := 80) dX7_faultOf_136 (by decide) ?_
        exact wp_mask [true, true, true, true, true, false] rfl h
      · replace h := h.2 c9
        refine wp_iload dX7_faultOf_112 rfl ?_
        exact wp_iret (ty := .int) dX7_faultOf_114 rfl rfl h
abbrev C_X7_faultOf (G : Glob) (x2 : Int32) (M : Mem) (Q : Option Value → Mem → Prop) : Prop := WpM G 7 Y_X7_faultOf [.ref (ad G 7), .ref (ad G 4), .int x2] M Q
set_option maxRecDepth 20000 in
theorem v_X7_faultOf {G : Glob} {x2 : Int32} {M : Mem} {Q : Option Value → Mem → Prop}  (h : (∀ M1 : Mem, M1 = upI M 7 4 0 → (WpM G 2 Y_X9_sizeOf [.ref (ad G 4), .int x2] M1 (RI (fun r3 M2 => (WpM G 5 Y_X7_pastBlanks [.ref (ad G 4), .int x2, .int 0] M2 (RI (fun r5 M4 => ((r5 < r3 → (WpM G 4 Y_X9_read [.ref (ad G 4), .int x2, .int r5] M4 (RI (fun r8 M7 => ((r8 = 100 → (WpM G 5 Y_X7_figure [.ref (ad G 4), .int x2, .int (r5 + 1), .int 1, .int 8] M7 (RI (fun r11 M10 => (∀ M12 : Mem, M12 = upI M10 7 5 r11 → (((M12.1 7 5) = (-1 : Int32) → Q (some (.int (r5 + 1))) M12) ∧ (¬ (M12.1 7 5) = (-1 : Int32) → (WpM G 5 Y_X7_pastBlanks [.ref (ad G 4), .int x2, .int (r5 + 2)] M12 (RI (fun r15 M14 => P_X7_faultOf_80 G x2 r3 r15 M14 Q)))))))))) ∧ (¬ r8 = 100 → Q (some (.int r5)) M7)))))) ∧ (¬ r5 < r3 → Q (some (.int r5)) M4)))))))))) : C_X7_faultOf G x2 M Q := by
  refine wp_enter (ls0 := [some (.ref (ad G 7)), some (.ref (ad G 4)), some (.int x2), none, none, none]) (by decide +kernel) (Nat.le_of_ble_eq_true rfl) rfl ?_
  refine wp_aload_n dX7_faultOf_0 rfl rfl ?_
  refine wp_iconst (v := 0) dX7_faultOf_1 (by decide) ?_
  refine wp_putI dX7_faultOf_2 rfl fp_7_4 m_1_62 ?_
  refine wp_topM (fun M1 hM1 => ?_)
  replace h := h M1 hM1
  refine wp_aload_n dX7_faultOf_5 rfl rfl ?_
  refine wp_iload_n dX7_faultOf_6 rfl rfl ?_
  refine wp_callVI (a := 4) (d1 := 2) (As := [.int x2]) (st := []) dX7_faultOf_7 rfl cm_X9_sizeOf m_3_151 (by decide) rfl (Nat.le_of_ble_eq_true rfl) rfl h ?_
  intro r3 M2 h
  refine wp_istore_n (ls' := [some (.ref (ad G 7)), some (.ref (ad G 4)), some (.int x2), some (.int r3), none, none]) dX7_faultOf_10 rfl (by decide) rfl rfl ?_
  refine wp_aload_n dX7_faultOf_11 rfl rfl ?_
  refine wp_iload_n dX7_faultOf_12 rfl rfl ?_
  refine wp_iconst (v := 0) dX7_faultOf_13 (by decide) ?_
  refine wp_callSI (d1 := 5) (As := [.ref (ad G 4), .int x2, .int 0]) (st := []) dX7_faultOf_14 cm_X7_pastBlanks m_3_152 (by decide) rfl (Nat.le_of_ble_eq_true rfl) rfl h ?_
  intro r5 M4 h
  refine wp_istore (ls' := [some (.ref (ad G 7)), some (.ref (ad G 4)), some (.int x2), some (.int r3), some (.int r5), none]) dX7_faultOf_17 (by decide) rfl rfl ?_
  refine wp_iload dX7_faultOf_19 rfl ?_
  refine wp_iload_n dX7_faultOf_21 rfl rfl ?_
  refine wp_icmp_ge (tgt := 37) dX7_faultOf_22 (by decide) (fun c6 => ?_) (fun c6 => ?_)
  · replace h := h.2 c6
    refine wp_iload dX7_faultOf_37 rfl ?_
    exact wp_iret (ty := .int) dX7_faultOf_39 rfl rfl h
  · replace h := h.1 c6
    refine wp_aload_n dX7_faultOf_25 rfl rfl ?_
    refine wp_iload_n dX7_faultOf_26 rfl rfl ?_
    refine wp_iload dX7_faultOf_27 rfl ?_
    refine wp_callVI (a := 4) (d1 := 4) (As := [.int x2, .int r5]) (st := []) dX7_faultOf_29 rfl cm_X9_read m_3_155 (by decide) rfl (Nat.le_of_ble_eq_true rfl) rfl h ?_
    intro r8 M7 h
    refine wp_bipush (v := 100) dX7_faultOf_32 (by decide) ?_
    refine wp_icmp_eq (tgt := 40) dX7_faultOf_34 (by decide) (fun c9 => ?_) (fun c9 => ?_)
    · replace h := h.1 c9
      refine wp_aload_n dX7_faultOf_40 rfl rfl ?_
      refine wp_aload_n dX7_faultOf_41 rfl rfl ?_
      refine wp_iload_n dX7_faultOf_42 rfl rfl ?_
      refine wp_iload dX7_faultOf_43 rfl ?_
      refine wp_iconst (v := 1) dX7_faultOf_45 (by decide) ?_
      refine wp_iadd dX7_faultOf_46 ?_
      refine wp_iconst (v := 1) dX7_faultOf_47 (by decide) ?_
      refine wp_bipush (v := 8) dX7_faultOf_48 (by decide) ?_
      refine wp_callSI (d1 := 5) (As := [.ref (ad G 4), .int x2, .int (r5 + 1), .int 1, .int 8]) (st := [.ref (ad G 7)]) dX7_faultOf_50 cm_X7_figure m_3_156 (by decide) rfl (Nat.le_of_ble_eq_true rfl) rfl h ?_
      intro r11 M10 h
      refine wp_putI dX7_faultOf_53 rfl fp_7_5 m_1_65 ?_
      refine wp_topM (fun M12 hM12 => ?_)
      replace h := h M12 hM12
      refine wp_aload_n dX7_faultOf_56 rfl rfl ?_
      refine wp_getI dX7_faultOf_57 rfl fb_7_5 m_1_65 ?_
      refine wp_iconst (v := (-1 : Int32)) dX7_faultOf_60 (by decide) ?_
      refine wp_icmp_ne (tgt := 69) dX7_faultOf_61 (by decide) (fun c13 => ?_) (fun c13 => ?_)
      · replace h := h.2 c13
        refine wp_aload_n dX7_faultOf_69 rfl rfl ?_
        refine wp_iload_n dX7_faultOf_70 rfl rfl ?_
        refine wp_iload dX7_faultOf_71 rfl ?_
        refine wp_iconst (v := 2) dX7_faultOf_73 (by decide) ?_
        refine wp_iadd dX7_faultOf_74 ?_
        refine wp_callSI (d1 := 5) (As := [.ref (ad G 4), .int x2, .int (r5 + 2)]) (st := []) dX7_faultOf_75 cm_X7_pastBlanks m_3_152 (by decide) rfl (Nat.le_of_ble_eq_true rfl) rfl h ?_
        intro r15 M14 h
        refine wp_istore (ls' := [some (.ref (ad G 7)), some (.ref (ad G 4)), some (.int x2), some (.int r3), some (.int r15), none]) dX7_faultOf_78 (by decide) rfl rfl ?_
        exact h
      · replace h := h.1 c13
        refine wp_iload dX7_faultOf_64 rfl ?_
        refine wp_iconst (v := 1) dX7_faultOf_66 (by decide) ?_
        refine wp_iadd dX7_faultOf_67 ?_
        exact wp_iret (ty := .int) dX7_faultOf_68 rfl rfl h
    · replace h := h.2 c9
      refine wp_iload dX7_faultOf_37 rfl ?_
      exact wp_iret (ty := .int) dX7_faultOf_39 rfl rfl h
abbrev C_X7_faultOfGlove (G : Glob) (x2 : Int32) (x3 : Int32) (M : Mem) (Q : Option Value → Mem → Prop) : Prop := WpM G 6 Y_X7_faultOfGlove [.ref (ad G 7), .ref (ad G 4), .int x2, .int x3] M Q
set_option maxRecDepth 20000 in
theorem v_X7_faultOfGlove {G : Glob} {x2 : Int32} {x3 : Int32} {M : Mem} {Q : Option Value → Mem → Prop}  (h : (((M.1 7 4) < 0 → Q (some (.int x3)) M) ∧ (¬ (M.1 7 4) < 0 → (((M.1 7 4) < 8 → (WpM G 4 Y_X9_read [.ref (ad G 4), .int x2, .int x3] M (RI (fun r4 M3 => (WpM G 1 Y_X7_kindOf [.int r4] M3 (RI (fun r6 M5 => (vp_in (M.1 7 4) 8 ∧ (∀ M8 : Mem, M8 = upI M5 8 ((M.1 7 4).toNatClampNeg) r6 → (vp_in (M8.1 7 4) 8 ∧ (((M8.1 8 (M8.1 7 4).toNatClampNeg) = (-1 : Int32) → Q (some (.int x3)) M8) ∧ (¬ (M8.1 8 (M8.1 7 4).toNatClampNeg) = (-1 : Int32) → (WpM G 5 Y_X7_figure [.ref (ad G 4), .int x2, .int (x3 + 1), .int 0, .int 9] M8 (RI (fun r12 M11 => (vp_in (M8.1 7 4) 8 ∧ (∀ M14 : Mem, M14 = upI M11 9 ((M8.1 7 4).toNatClampNeg) r12 → (vp_in (M14.1 7 4) 8 ∧ (((M14.1 9 (M14.1 7 4).toNatClampNeg) = (-1 : Int32) → Q (some (.int (x3 + 1))) M14) ∧ (¬ (M14.1 9 (M14.1 7 4).toNatClampNeg) = (-1 : Int32) → (WpM G 5 Y_X7_figure [.ref (ad G 4), .int x2, .int (x3 + 2), .int 0, .int 1] M14 (RI (fun r18 M17 => (vp_in (M14.1 7 4) 8 ∧ (∀ M20 : Mem, M20 = upI M17 10 ((M14.1 7 4).toNatClampNeg) r18 → (vp_in (M20.1 7 4) 8 ∧ (((M20.1 10 (M20.1 7 4).toNatClampNeg) = (-1 : Int32) → Q (some (.int (x3 + 2))) M20) ∧ (¬ (M20.1 10 (M20.1 7 4).toNatClampNeg) = (-1 : Int32) → (WpM G 5 Y_X7_figure [.ref (ad G 4), .int x2, .int (x3 + 3), .int 0, .int 9] M20 (RI (fun r24 M23 => (vp_in (M20.1 7 4) 8 ∧ (∀ M26 : Mem, M26 = upI M23 11 ((M20.1 7 4).toNatClampNeg) r24 → (vp_in (M26.1 7 4) 8 ∧ (((M26.1 11 (M26.1 7 4).toNatClampNeg) = (-1 : Int32) → Q (some (.int (x3 + 3))) M26) ∧ (¬ (M26.1 11 (M26.1 7 4).toNatClampNeg) = (-1 : Int32) → Q (some (.int (-9 : Int32))) M26)))))))))))))))))))))))))))))))))))) ∧ (¬ (M.1 7 4) < 8 → Q (some (.int x3)) M))))) : C_X7_faultOfGlove G x2 x3 M Q := by
  refine wp_enter (ls0 := [some (.ref (ad G 7)), some (.ref (ad G 4)), some (.int x2), some (.int x3)]) (by decide +kernel) (Nat.le_of_ble_eq_true rfl) rfl ?_
  refine wp_aload_n dX7_faultOfGlove_0 rfl rfl ?_
  refine wp_getI dX7_faultOfGlove_1 rfl fb_7_4 m_1_62 ?_
  refine wp_if_lt (tgt := 16) dX7_faultOfGlove_4 (by decide) (fun c1 => ?_) (fun c1 => ?_)
  · replace h := h.1 c1
    refine wp_iload_n dX7_faultOfGlove_16 rfl rfl ?_
    exact wp_iret (ty := .int) dX7_faultOfGlove_17 rfl rfl h
  · replace h := h.2 c1
    refine wp_aload_n dX7_faultOfGlove_7 rfl rfl ?_
    refine wp_getI dX7_faultOfGlove_8 rfl fb_7_4 m_1_62 ?_
    refine wp_bipush (v := 8) dX7_faultOfGlove_11 (by decide) ?_
    refine wp_icmp_lt (tgt := 18) dX7_faultOfGlove_13 (by decide) (fun c2 => ?_) (fun c2 => ?_)
    · replace h := h.1 c2
      refine wp_aload_n dX7_faultOfGlove_18 rfl rfl ?_
      refine wp_getR (b := 8) dX7_faultOfGlove_19 rfl rfl fb_7_0 m_1_54 ?_
      refine wp_aload_n dX7_faultOfGlove_22 rfl rfl ?_
      refine wp_getI dX7_faultOfGlove_23 rfl fb_7_4 m_1_62 ?_
      refine wp_aload_n dX7_faultOfGlove_26 rfl rfl ?_
      refine wp_iload_n dX7_faultOfGlove_27 rfl rfl ?_
      refine wp_iload_n dX7_faultOfGlove_28 rfl rfl ?_
      refine wp_callVI (a := 4) (d1 := 4) (As := [.int x2, .int x3]) (st := [.int (M.1 7 4), .ref (ad G 8)]) dX7_faultOfGlove_29 rfl cm_X9_read m_3_155 (by decide) rfl (Nat.le_of_ble_eq_true rfl) rfl h ?_
      intro r4 M3 h
      refine wp_callSI (d1 := 1) (As := [.int r4]) (st := [.int (M.1 7 4), .ref (ad G 8)]) dX7_faultOfGlove_32 cm_X7_kindOf m_3_164 (by decide) rfl (Nat.le_of_ble_eq_true rfl) rfl h ?_
      intro r6 M5 h
      obtain ⟨b7, h⟩ := h
      refine wp_iast (n := 8) dX7_faultOfGlove_35 rfl rfl b7 ?_
      refine wp_topM (fun M8 hM8 => ?_)
      replace h := h M8 hM8
      refine wp_aload_n dX7_faultOfGlove_36 rfl rfl ?_
      refine wp_getR (b := 8) dX7_faultOfGlove_37 rfl rfl fb_7_0 m_1_54 ?_
      refine wp_aload_n dX7_faultOfGlove_40 rfl rfl ?_
      refine wp_getI dX7_faultOfGlove_41 rfl fb_7_4 m_1_62 ?_
      obtain ⟨b9, h⟩ := h
      refine wp_iald (n := 8) dX7_faultOfGlove_44 rfl rfl b9 ?_
      refine wp_iconst (v := (-1 : Int32)) dX7_faultOfGlove_45 (by decide) ?_
      refine wp_icmp_ne (tgt := 51) dX7_faultOfGlove_46 (by decide) (fun c10 => ?_) (fun c10 => ?_)
      · replace h := h.2 c10
        refine wp_aload_n dX7_faultOfGlove_51 rfl rfl ?_
        refine wp_getR (b := 9) dX7_faultOfGlove_52 rfl rfl fb_7_1 m_1_56 ?_
        refine wp_aload_n dX7_faultOfGlove_55 rfl rfl ?_
        refine wp_getI dX7_faultOfGlove_56 rfl fb_7_4 m_1_62 ?_
        refine wp_aload_n dX7_faultOfGlove_59 rfl rfl ?_
        refine wp_iload_n dX7_faultOfGlove_60 rfl rfl ?_
        refine wp_iload_n dX7_faultOfGlove_61 rfl rfl ?_
        refine wp_iconst (v := 1) dX7_faultOfGlove_62 (by decide) ?_
        refine wp_iadd dX7_faultOfGlove_63 ?_
        refine wp_iconst (v := 0) dX7_faultOfGlove_64 (by decide) ?_
        refine wp_bipush (v := 9) dX7_faultOfGlove_65 (by decide) ?_
        refine wp_callSI (d1 := 5) (As := [.ref (ad G 4), .int x2, .int (x3 + 1), .int 0, .int 9]) (st := [.int (M8.1 7 4), .ref (ad G 9)]) dX7_faultOfGlove_67 cm_X7_figure m_3_156 (by decide) rfl (Nat.le_of_ble_eq_true rfl) rfl h ?_
        intro r12 M11 h
        obtain ⟨b13, h⟩ := h
        refine wp_iast (n := 8) dX7_faultOfGlove_70 rfl rfl b13 ?_
        refine wp_topM (fun M14 hM14 => ?_)
        replace h := h M14 hM14
        refine wp_aload_n dX7_faultOfGlove_71 rfl rfl ?_
        refine wp_getR (b := 9) dX7_faultOfGlove_72 rfl rfl fb_7_1 m_1_56 ?_
        refine wp_aload_n dX7_faultOfGlove_75 rfl rfl ?_
        refine wp_getI dX7_faultOfGlove_76 rfl fb_7_4 m_1_62 ?_
        obtain ⟨b15, h⟩ := h
        refine wp_iald (n := 8) dX7_faultOfGlove_79 rfl rfl b15 ?_
        refine wp_iconst (v := (-1 : Int32)) dX7_faultOfGlove_80 (by decide) ?_
        refine wp_icmp_ne (tgt := 88) dX7_faultOfGlove_81 (by decide) (fun c16 => ?_) (fun c16 => ?_)
        · replace h := h.2 c16
          refine wp_aload_n dX7_faultOfGlove_88 rfl rfl ?_
          refine wp_getR (b := 10) dX7_faultOfGlove_89 rfl rfl fb_7_2 m_1_58 ?_
          refine wp_aload_n dX7_faultOfGlove_92 rfl rfl ?_
          refine wp_getI dX7_faultOfGlove_93 rfl fb_7_4 m_1_62 ?_
          refine wp_aload_n dX7_faultOfGlove_96 rfl rfl ?_
          refine wp_iload_n dX7_faultOfGlove_97 rfl rfl ?_
          refine wp_iload_n dX7_faultOfGlove_98 rfl rfl ?_
          refine wp_iconst (v := 2) dX7_faultOfGlove_99 (by decide) ?_
          refine wp_iadd dX7_faultOfGlove_100 ?_
          refine wp_iconst (v := 0) dX7_faultOfGlove_101 (by decide) ?_
          refine wp_iconst (v := 1) dX7_faultOfGlove_102 (by decide) ?_
          refine wp_callSI (d1 := 5) (As := [.ref (ad G 4), .int x2, .int (x3 + 2), .int 0, .int 1]) (st := [.int (M14.1 7 4), .ref (ad G 10)]) dX7_faultOfGlove_103 cm_X7_figure m_3_156 (by decide) rfl (Nat.le_of_ble_eq_true rfl) rfl h ?_
          intro r18 M17 h
          obtain ⟨b19, h⟩ := h
          refine wp_iast (n := 8) dX7_faultOfGlove_106 rfl rfl b19 ?_
          refine wp_topM (fun M20 hM20 => ?_)
          replace h := h M20 hM20
          refine wp_aload_n dX7_faultOfGlove_107 rfl rfl ?_
          refine wp_getR (b := 10) dX7_faultOfGlove_108 rfl rfl fb_7_2 m_1_58 ?_
          refine wp_aload_n dX7_faultOfGlove_111 rfl rfl ?_
          refine wp_getI dX7_faultOfGlove_112 rfl fb_7_4 m_1_62 ?_
          obtain ⟨b21, h⟩ := h
          refine wp_iald (n := 8) dX7_faultOfGlove_115 rfl rfl b21 ?_
          refine wp_iconst (v := (-1 : Int32)) dX7_faultOfGlove_116 (by decide) ?_
          refine wp_icmp_ne (tgt := 124) dX7_faultOfGlove_117 (by decide) (fun c22 => ?_) (fun c22 => ?_)
          · replace h := h.2 c22
            refine wp_aload_n dX7_faultOfGlove_124 rfl rfl ?_
            refine wp_getR (b := 11) dX7_faultOfGlove_125 rfl rfl fb_7_3 m_1_60 ?_
            refine wp_aload_n dX7_faultOfGlove_128 rfl rfl ?_
            refine wp_getI dX7_faultOfGlove_129 rfl fb_7_4 m_1_62 ?_
            refine wp_aload_n dX7_faultOfGlove_132 rfl rfl ?_
            refine wp_iload_n dX7_faultOfGlove_133 rfl rfl ?_
            refine wp_iload_n dX7_faultOfGlove_134 rfl rfl ?_
            refine wp_iconst (v := 3) dX7_faultOfGlove_135 (by decide) ?_
            refine wp_iadd dX7_faultOfGlove_136 ?_
            refine wp_iconst (v := 0) dX7_faultOfGlove_137 (by decide) ?_
            refine wp_bipush (v := 9) dX7_faultOfGlove_138 (by decide) ?_
            refine wp_callSI (d1 := 5) (As := [.ref (ad G 4), .int x2, .int (x3 + 3), .int 0, .int 9]) (st := [.int (M20.1 7 4), .ref (ad G 11)]) dX7_faultOfGlove_140 cm_X7_figure m_3_156 (by decide) rfl (Nat.le_of_ble_eq_true rfl) rfl h ?_
            intro r24 M23 h
            obtain ⟨b25, h⟩ := h
            refine wp_iast (n := 8) dX7_faultOfGlove_143 rfl rfl b25 ?_
            refine wp_topM (fun M26 hM26 => ?_)
            replace h := h M26 hM26
            refine wp_aload_n dX7_faultOfGlove_144 rfl rfl ?_
            refine wp_getR (b := 11) dX7_faultOfGlove_145 rfl rfl fb_7_3 m_1_60 ?_
            refine wp_aload_n dX7_faultOfGlove_148 rfl rfl ?_
            refine wp_getI dX7_faultOfGlove_149 rfl fb_7_4 m_1_62 ?_
            obtain ⟨b27, h⟩ := h
            refine wp_iald (n := 8) dX7_faultOfGlove_152 rfl rfl b27 ?_
            refine wp_iconst (v := (-1 : Int32)) dX7_faultOfGlove_153 (by decide) ?_
            refine wp_icmp_ne (tgt := 163) dX7_faultOfGlove_154 (by decide) (fun c28 => ?_) (fun c28 => ?_)
            · replace h := h.2 c28
              refine wp_bipush (v := (-9 : Int32)) dX7_faultOfGlove_163 (by decide) ?_
              exact wp_iret (ty := .int) dX7_faultOfGlove_165 rfl rfl h
            · replace h := h.1 c28
              refine wp_iload_n dX7_faultOfGlove_157 rfl rfl ?_
              refine wp_iconst (v := 3) dX7_faultOfGlove_158 (by decide) ?_
              refine wp_iadd dX7_faultOfGlove_159 ?_
              refine wp_goto (tgt := 165) dX7_faultOfGlove_160 (by decide) ?_
              exact wp_iret (ty := .int) dX7_faultOfGlove_165 rfl rfl h
          · replace h := h.1 c22
            refine wp_iload_n dX7_faultOfGlove_120 rfl rfl ?_
            refine wp_iconst (v := 2) dX7_faultOfGlove_121 (by decide) ?_
            refine wp_iadd dX7_faultOfGlove_122 ?_
            exact wp_iret (ty := .int) dX7_faultOfGlove_123 rfl rfl h
        · replace h := h.1 c16
          refine wp_iload_n dX7_faultOfGlove_84 rfl rfl ?_
          refine wp_iconst (v := 1) dX7_faultOfGlove_85 (by decide) ?_
          refine wp_iadd dX7_faultOfGlove_86 ?_
          exact wp_iret (ty := .int) dX7_faultOfGlove_87 rfl rfl h
      · replace h := h.1 c10
        refine wp_iload_n dX7_faultOfGlove_49 rfl rfl ?_
        exact wp_iret (ty := .int) dX7_faultOfGlove_50 rfl rfl h
    · replace h := h.2 c2
      refine wp_iload_n dX7_faultOfGlove_16 rfl rfl ?_
      exact wp_iret (ty := .int) dX7_faultOfGlove_17 rfl rfl h
abbrev P_X7_pastBlanks_9 (G : Glob) (x1 : Int32) (x3 : Int32) (x4 : Int32) (M : Mem) (Q : Option Value → Mem → Prop) : Prop := Wp G 5 Y_X7_pastBlanks 9 [some (.ref (ad G 4)), some (.int x1), none, some (.int x3), some (.int x4)] [] M Q
set_option maxRecDepth 20000 in
theorem v_X7_pastBlanks_9 {G : Glob} {x1 : Int32} {x3 : Int32} {x4 : Int32} {M : Mem} {Q : Option Value → Mem → Prop}  (h : ((x4 < x3 → (WpM G 4 Y_X9_read [.ref (ad G 4), .int x1, .int x4] M (RI (fun r3 M2 => ((r3 = 32 → P_X7_pastBlanks_9 G x1 x3 (x4 + 1) M2 Q) ∧ (¬ r3 = 32 → Q (some (.int x4)) M2)))))) ∧ (¬ x4 < x3 → Q (some (.int x4)) M))) : P_X7_pastBlanks_9 G x1 x3 x4 M Q := by
  refine wp_iload dX7_pastBlanks_9 rfl ?_
  refine wp_iload_n dX7_pastBlanks_11 rfl rfl ?_
  refine wp_icmp_ge (tgt := 33) dX7_pastBlanks_12 (by decide) (fun c1 => ?_) (fun c1 => ?_)
  · replace h := h.2 c1
    refine wp_iload dX7_pastBlanks_33 rfl ?_
    exact wp_iret (ty := .int) dX7_pastBlanks_35 rfl rfl h
  · replace h := h.1 c1
    refine wp_aload_n dX7_pastBlanks_15 rfl rfl ?_
    refine wp_iload_n dX7_pastBlanks_16 rfl rfl ?_
    refine wp_iload dX7_pastBlanks_17 rfl ?_
    refine wp_callVI (a := 4) (d1 := 4) (As := [.int x1, .int x4]) (st := []) dX7_pastBlanks_19 rfl cm_X9_read m_3_155 (by decide) rfl (Nat.le_of_ble_eq_true rfl) rfl h ?_
    intro r3 M2 h
    refine wp_bipush (v := 32) dX7_pastBlanks_22 (by decide) ?_
    refine wp_icmp_ne (tgt := 33) dX7_pastBlanks_24 (by decide) (fun c4 => ?_) (fun c4 => ?_)
    · replace h := h.2 c4
      refine wp_iload dX7_pastBlanks_33 rfl ?_
      exact wp_iret (ty := .int) dX7_pastBlanks_35 rfl rfl h
    · replace h := h.1 c4
      refine wp_iinc (v := (x4 + 1)) (ls' := [some (.ref (ad G 4)), some (.int x1), none, some (.int x3), some (.int (x4 + 1))]) dX7_pastBlanks_27 rfl rfl (by decide) rfl rfl ?_
      refine wp_goto (tgt := 9) dX7_pastBlanks_30 (by decide) ?_
      exact h
abbrev C_X7_pastBlanks (G : Glob) (x1 : Int32) (x2 : Int32) (M : Mem) (Q : Option Value → Mem → Prop) : Prop := WpM G 5 Y_X7_pastBlanks [.ref (ad G 4), .int x1, .int x2] M Q
set_option maxRecDepth 20000 in
theorem v_X7_pastBlanks {G : Glob} {x1 : Int32} {x2 : Int32} {M : Mem} {Q : Option Value → Mem → Prop}  (h : (WpM G 2 Y_X9_sizeOf [.ref (ad G 4), .int x1] M (RI (fun r2 M1 => P_X7_pastBlanks_9 G x1 r2 x2 M1 Q)))) : C_X7_pastBlanks G x1 x2 M Q := by
  refine wp_enter (ls0 := [some (.ref (ad G 4)), some (.int x1), some (.int x2), none, none]) (by decide +kernel) (Nat.le_of_ble_eq_true rfl) rfl ?_
  refine wp_aload_n dX7_pastBlanks_0 rfl rfl ?_
  refine wp_iload_n dX7_pastBlanks_1 rfl rfl ?_
  refine wp_callVI (a := 4) (d1 := 2) (As := [.int x1]) (st := []) dX7_pastBlanks_2 rfl cm_X9_sizeOf m_3_151 (by decide) rfl (Nat.le_of_ble_eq_true rfl) rfl h ?_
  intro r2 M1 h
  refine wp_istore_n (ls' := [some (.ref (ad G 4)), some (.int x1), some (.int x2), some (.int r2), none]) dX7_pastBlanks_5 rfl (by decide) rfl rfl ?_
  refine wp_iload_n dX7_pastBlanks_6 rfl rfl ?_
  refine wp_istore (ls' := [some (.ref (ad G 4)), some (.int x1), some (.int x2), some (.int r2), some (.int x2)]) dX7_pastBlanks_7 (by decide) rfl rfl ?_
  exact wp_mask [true, true, false, true, true] rfl h
abbrev C_X7_figure (G : Glob) (x1 : Int32) (x2 : Int32) (x3 : Int32) (x4 : Int32) (M : Mem) (Q : Option Value → Mem → Prop) : Prop := WpM G 5 Y_X7_figure [.ref (ad G 4), .int x1, .int x2, .int x3, .int x4] M Q
set_option maxRecDepth 20000 in
theorem v_X7_figure {G : Glob} {x1 : Int32} {x2 : Int32} {x3 : Int32} {x4 : Int32} {M : Mem} {Q : Option Value → Mem → Prop}  (h : (WpM G 3 Y_X9_holds [.ref (ad G 4), .int x1, .int x2] M (RI (fun r2 M1 => ((r2 = 0 → Q (some (.int (-1 : Int32))) M1) ∧ (¬ r2 = 0 → (WpM G 4 Y_X9_read [.ref (ad G 4), .int x1, .int x2] M1 (RI (fun r5 M4 => (((r5 - 48) < x3 → Q (some (.int (-1 : Int32))) M4) ∧ (¬ (r5 - 48) < x3 → ((x4 < (r5 - 48) → Q (some (.int (-1 : Int32))) M4) ∧ (¬ x4 < (r5 - 48) → Q (some (.int (r5 - 48))) M4))))))))))))) : C_X7_figure G x1 x2 x3 x4 M Q := by
  refine wp_enter (ls0 := [some (.ref (ad G 4)), some (.int x1), some (.int x2), some (.int x3), some (.int x4), none]) (by decide +kernel) (Nat.le_of_ble_eq_true rfl) rfl ?_
  refine wp_aload_n dX7_figure_0 rfl rfl ?_
  refine wp_iload_n dX7_figure_1 rfl rfl ?_
  refine wp_iload_n dX7_figure_2 rfl rfl ?_
  refine wp_callVI (a := 4) (d1 := 3) (As := [.int x1, .int x2]) (st := []) dX7_figure_3 rfl cm_X9_holds m_3_159 (by decide) rfl (Nat.le_of_ble_eq_true rfl) rfl h ?_
  intro r2 M1 h
  refine wp_if_ne (tgt := 11) dX7_figure_6 (by decide) (fun c3 => ?_) (fun c3 => ?_)
  · replace h := h.2 c3
    refine wp_aload_n dX7_figure_11 rfl rfl ?_
    refine wp_iload_n dX7_figure_12 rfl rfl ?_
    refine wp_iload_n dX7_figure_13 rfl rfl ?_
    refine wp_callVI (a := 4) (d1 := 4) (As := [.int x1, .int x2]) (st := []) dX7_figure_14 rfl cm_X9_read m_3_155 (by decide) rfl (Nat.le_of_ble_eq_true rfl) rfl h ?_
    intro r5 M4 h
    refine wp_bipush (v := 48) dX7_figure_17 (by decide) ?_
    refine wp_isub dX7_figure_19 ?_
    refine wp_istore (ls' := [some (.ref (ad G 4)), some (.int x1), some (.int x2), some (.int x3), some (.int x4), some (.int (r5 - 48))]) dX7_figure_20 (by decide) rfl rfl ?_
    refine wp_iload dX7_figure_22 rfl ?_
    refine wp_iload_n dX7_figure_24 rfl rfl ?_
    refine wp_icmp_lt (tgt := 40) dX7_figure_25 (by decide) (fun c6 => ?_) (fun c6 => ?_)
    · replace h := h.1 c6
      refine wp_iconst (v := (-1 : Int32)) dX7_figure_40 (by decide) ?_
      exact wp_iret (ty := .int) dX7_figure_41 rfl rfl h
    · replace h := h.2 c6
      refine wp_iload dX7_figure_28 rfl ?_
      refine wp_iload dX7_figure_30 rfl ?_
      refine wp_icmp_gt (tgt := 40) dX7_figure_32 (by decide) (fun c7 => ?_) (fun c7 => ?_)
      · replace h := h.1 c7
        refine wp_iconst (v := (-1 : Int32)) dX7_figure_40 (by decide) ?_
        exact wp_iret (ty := .int) dX7_figure_41 rfl rfl h
      · replace h := h.2 c7
        refine wp_iload dX7_figure_35 rfl ?_
        refine wp_goto (tgt := 41) dX7_figure_37 (by decide) ?_
        exact wp_iret (ty := .int) dX7_figure_41 rfl rfl h
  · replace h := h.1 c3
    refine wp_iconst (v := (-1 : Int32)) dX7_figure_9 (by decide) ?_
    exact wp_iret (ty := .int) dX7_figure_10 rfl rfl h
abbrev C_X7_kindOf (G : Glob) (x0 : Int32) (M : Mem) (Q : Option Value → Mem → Prop) : Prop := WpM G 1 Y_X7_kindOf [.int x0] M Q
set_option maxRecDepth 20000 in
theorem v_X7_kindOf {G : Glob} {x0 : Int32} {M : Mem} {Q : Option Value → Mem → Prop}  (h : ((x0 = 101 → Q (some (.int 2)) M) ∧ (¬ x0 = 101 → ((x0 = 102 → Q (some (.int (-1 : Int32))) M) ∧ (¬ x0 = 102 → ((x0 = 103 → Q (some (.int 0)) M) ∧ (¬ x0 = 103 → ((x0 = 104 → Q (some (.int (-1 : Int32))) M) ∧ (¬ x0 = 104 → ((x0 = 105 → Q (some (.int (-1 : Int32))) M) ∧ (¬ x0 = 105 → ((x0 = 106 → Q (some (.int (-1 : Int32))) M) ∧ (¬ x0 = 106 → ((x0 = 107 → Q (some (.int (-1 : Int32))) M) ∧ (¬ x0 = 107 → ((x0 = 108 → Q (some (.int 4)) M) ∧ (¬ x0 = 108 → ((x0 = 109 → Q (some (.int 1)) M) ∧ (¬ x0 = 109 → ((x0 = 110 → Q (some (.int (-1 : Int32))) M) ∧ (¬ x0 = 110 → ((x0 = 111 → Q (some (.int (-1 : Int32))) M) ∧ (¬ x0 = 111 → ((x0 = 112 → Q (some (.int (-1 : Int32))) M) ∧ (¬ x0 = 112 → ((x0 = 113 → Q (some (.int (-1 : Int32))) M) ∧ (¬ x0 = 113 → ((x0 = 114 → Q (some (.int (-1 : Int32))) M) ∧ (¬ x0 = 114 → ((x0 = 115 → Q (some (.int 3)) M) ∧ (¬ x0 = 115 → ((x0 = 116 → Q (some (.int 5)) M) ∧ (¬ x0 = 116 → Q (some (.int (-1 : Int32))) M))))))))))))))))))))))))))))))))) : C_X7_kindOf G x0 M Q := by
  refine wp_enter (ls0 := [some (.int x0)]) (by decide +kernel) (Nat.le_of_ble_eq_true rfl) rfl ?_
  refine wp_iload_n dX7_kindOf_0 rfl rfl ?_
  rcases Decidable.em (x0 = 101) with n0 | n0
  · replace h := h.1 n0
    refine wp_tswI (tgt := 84) (v := 101) dX7_kindOf_1 n0 (by decide) (by decide) rfl (by decide) ?_
    refine wp_iconst (v := 2) dX7_kindOf_84 (by decide) ?_
    exact wp_iret (ty := .int) dX7_kindOf_85 rfl rfl h
  · replace h := h.2 n0
    rcases Decidable.em (x0 = 102) with n1 | n1
    · replace h := h.1 n1
      refine wp_tswI (tgt := 92) (v := 102) dX7_kindOf_1 n1 (by decide) (by decide) rfl (by decide) ?_
      refine wp_iconst (v := (-1 : Int32)) dX7_kindOf_92 (by decide) ?_
      exact wp_iret (ty := .int) dX7_kindOf_93 rfl rfl h
    · replace h := h.2 n1
      rcases Decidable.em (x0 = 103) with n2 | n2
      · replace h := h.1 n2
        refine wp_tswI (tgt := 80) (v := 103) dX7_kindOf_1 n2 (by decide) (by decide) rfl (by decide) ?_
        refine wp_iconst (v := 0) dX7_kindOf_80 (by decide) ?_
        exact wp_iret (ty := .int) dX7_kindOf_81 rfl rfl h
      · replace h := h.2 n2
        rcases Decidable.em (x0 = 104) with n3 | n3
        · replace h := h.1 n3
          refine wp_tswI (tgt := 92) (v := 104) dX7_kindOf_1 n3 (by decide) (by decide) rfl (by decide) ?_
          refine wp_iconst (v := (-1 : Int32)) dX7_kindOf_92 (by decide) ?_
          exact wp_iret (ty := .int) dX7_kindOf_93 rfl rfl h
        · replace h := h.2 n3
          rcases Decidable.em (x0 = 105) with n4 | n4
          · replace h := h.1 n4
            refine wp_tswI (tgt := 92) (v := 105) dX7_kindOf_1 n4 (by decide) (by decide) rfl (by decide) ?_
            refine wp_iconst (v := (-1 : Int32)) dX7_kindOf_92 (by decide) ?_
            exact wp_iret (ty := .int) dX7_kindOf_93 rfl rfl h
          · replace h := h.2 n4
            rcases Decidable.em (x0 = 106) with n5 | n5
            · replace h := h.1 n5
              refine wp_tswI (tgt := 92) (v := 106) dX7_kindOf_1 n5 (by decide) (by decide) rfl (by decide) ?_
              refine wp_iconst (v := (-1 : Int32)) dX7_kindOf_92 (by decide) ?_
              exact wp_iret (ty := .int) dX7_kindOf_93 rfl rfl h
            · replace h := h.2 n5
              rcases Decidable.em (x0 = 107) with n6 | n6
              · replace h := h.1 n6
                refine wp_tswI (tgt := 92) (v := 107) dX7_kindOf_1 n6 (by decide) (by decide) rfl (by decide) ?_
                refine wp_iconst (v := (-1 : Int32)) dX7_kindOf_92 (by decide) ?_
                exact wp_iret (ty := .int) dX7_kindOf_93 rfl rfl h
              · replace h := h.2 n6
                rcases Decidable.em (x0 = 108) with n7 | n7
                · replace h := h.1 n7
                  refine wp_tswI (tgt := 88) (v := 108) dX7_kindOf_1 n7 (by decide) (by decide) rfl (by decide) ?_
                  refine wp_iconst (v := 4) dX7_kindOf_88 (by decide) ?_
                  exact wp_iret (ty := .int) dX7_kindOf_89 rfl rfl h
                · replace h := h.2 n7
                  rcases Decidable.em (x0 = 109) with n8 | n8
                  · replace h := h.1 n8
                    refine wp_tswI (tgt := 82) (v := 109) dX7_kindOf_1 n8 (by decide) (by decide) rfl (by decide) ?_
                    refine wp_iconst (v := 1) dX7_kindOf_82 (by decide) ?_
                    exact wp_iret (ty := .int) dX7_kindOf_83 rfl rfl h
                  · replace h := h.2 n8
                    rcases Decidable.em (x0 = 110) with n9 | n9
                    · replace h := h.1 n9
                      refine wp_tswI (tgt := 92) (v := 110) dX7_kindOf_1 n9 (by decide) (by decide) rfl (by decide) ?_
                      refine wp_iconst (v := (-1 : Int32)) dX7_kindOf_92 (by decide) ?_
                      exact wp_iret (ty := .int) dX7_kindOf_93 rfl rfl h
                    · replace h := h.2 n9
                      rcases Decidable.em (x0 = 111) with n10 | n10
                      · replace h := h.1 n10
                        refine wp_tswI (tgt := 92) (v := 111) dX7_kindOf_1 n10 (by decide) (by decide) rfl (by decide) ?_
                        refine wp_iconst (v := (-1 : Int32)) dX7_kindOf_92 (by decide) ?_
                        exact wp_iret (ty := .int) dX7_kindOf_93 rfl rfl h
                      · replace h := h.2 n10
                        rcases Decidable.em (x0 = 112) with n11 | n11
                        · replace h := h.1 n11
                          refine wp_tswI (tgt := 92) (v := 112) dX7_kindOf_1 n11 (by decide) (by decide) rfl (by decide) ?_
                          refine wp_iconst (v := (-1 : Int32)) dX7_kindOf_92 (by decide) ?_
                          exact wp_iret (ty := .int) dX7_kindOf_93 rfl rfl h
                        · replace h := h.2 n11
                          rcases Decidable.em (x0 = 113) with n12 | n12
                          · replace h := h.1 n12
                            refine wp_tswI (tgt := 92) (v := 113) dX7_kindOf_1 n12 (by decide) (by decide) rfl (by decide) ?_
                            refine wp_iconst (v := (-1 : Int32)) dX7_kindOf_92 (by decide) ?_
                            exact wp_iret (ty := .int) dX7_kindOf_93 rfl rfl h
                          · replace h := h.2 n12
                            rcases Decidable.em (x0 = 114) with n13 | n13
                            · replace h := h.1 n13
                              refine wp_tswI (tgt := 92) (v := 114) dX7_kindOf_1 n13 (by decide) (by decide) rfl (by decide) ?_
                              refine wp_iconst (v := (-1 : Int32)) dX7_kindOf_92 (by decide) ?_
                              exact wp_iret (ty := .int) dX7_kindOf_93 rfl rfl h
                            · replace h := h.2 n13
                              rcases Decidable.em (x0 = 115) with n14 | n14
                              · replace h := h.1 n14
                                refine wp_tswI (tgt := 86) (v := 115) dX7_kindOf_1 n14 (by decide) (by decide) rfl (by decide) ?_
                                refine wp_iconst (v := 3) dX7_kindOf_86 (by decide) ?_
                                exact wp_iret (ty := .int) dX7_kindOf_87 rfl rfl h
                              · replace h := h.2 n14
                                rcases Decidable.em (x0 = 116) with n15 | n15
                                · replace h := h.1 n15
                                  refine wp_tswI (tgt := 90) (v := 116) dX7_kindOf_1 n15 (by decide) (by decide) rfl (by decide) ?_
                                  refine wp_iconst (v := 5) dX7_kindOf_90 (by decide) ?_
                                  exact wp_iret (ty := .int) dX7_kindOf_91 rfl rfl h
                                · replace h := h.2 n15
                                  refine wp_tswD (tgt := 92) dX7_kindOf_1 (by have e0 : (x0 : Int32).toInt ≠ 101 := fun e => n0 (Int32.toInt_inj.mp e); have e1 : (x0 : Int32).toInt ≠ 102 := fun e => n1 (Int32.toInt_inj.mp e); have e2 : (x0 : Int32).toInt ≠ 103 := fun e => n2 (Int32.toInt_inj.mp e); have e3 : (x0 : Int32).toInt ≠ 104 := fun e => n3 (Int32.toInt_inj.mp e); have e4 : (x0 : Int32).toInt ≠ 105 := fun e => n4 (Int32.toInt_inj.mp e); have e5 : (x0 : Int32).toInt ≠ 106 := fun e => n5 (Int32.toInt_inj.mp e); have e6 : (x0 : Int32).toInt ≠ 107 := fun e => n6 (Int32.toInt_inj.mp e); have e7 : (x0 : Int32).toInt ≠ 108 := fun e => n7 (Int32.toInt_inj.mp e); have e8 : (x0 : Int32).toInt ≠ 109 := fun e => n8 (Int32.toInt_inj.mp e); have e9 : (x0 : Int32).toInt ≠ 110 := fun e => n9 (Int32.toInt_inj.mp e); have e10 : (x0 : Int32).toInt ≠ 111 := fun e => n10 (Int32.toInt_inj.mp e); have e11 : (x0 : Int32).toInt ≠ 112 := fun e => n11 (Int32.toInt_inj.mp e); have e12 : (x0 : Int32).toInt ≠ 113 := fun e => n12 (Int32.toInt_inj.mp e); have e13 : (x0 : Int32).toInt ≠ 114 := fun e => n13 (Int32.toInt_inj.mp e); have e14 : (x0 : Int32).toInt ≠ 115 := fun e => n14 (Int32.toInt_inj.mp e); have e15 : (x0 : Int32).toInt ≠ 116 := fun e => n15 (Int32.toInt_inj.mp e); omega) (by decide) ?_
                                  refine wp_iconst (v := (-1 : Int32)) dX7_kindOf_92 (by decide) ?_
                                  exact wp_iret (ty := .int) dX7_kindOf_93 rfl rfl h
