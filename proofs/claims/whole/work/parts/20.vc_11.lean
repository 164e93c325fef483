abbrev C_X11_in (G : Glob) (x0 : Int32) (x1 : Int32) (x2 : Int32) (M : Mem) (Q : Option Value → Mem → Prop) : Prop := WpM G 1 Y_X11_in [.int x0, .int x1, .int x2] M Q
set_option maxRecDepth 20000 in
theorem v_X11_in {G : Glob} {x0 : Int32} {x1 : Int32} {x2 : Int32} {M : Mem} {Q : Option Value → Mem → Prop}  (h : ((x0 < x1 → Q (some (.int 0)) M) ∧ (¬ x0 < x1 → ((x2 < x0 → Q (some (.int 0)) M) ∧ (¬ x2 < x0 → Q (some (.int 1)) M))))) : C_X11_in G x0 x1 x2 M Q := by
  refine wp_enter (ls0 := [some (.int x0), some (.int x1), some (.int x2)]) (by decide +kernel) (Nat.le_of_ble_eq_true rfl) rfl ?_
  refine wp_iload_n dX11_in_0 rfl rfl ?_
  refine wp_iload_n dX11_in_1 rfl rfl ?_
  refine wp_icmp_lt (tgt := 14) dX11_in_2 (by decide) (fun c1 => ?_) (fun c1 => ?_)
  · replace h := h.1 c1
    refine wp_iconst (v := 0) dX11_in_14 (by decide) ?_
    exact wp_iret (ty := .boolean) dX11_in_15 rfl rfl h
  · replace h := h.2 c1
    refine wp_iload_n dX11_in_5 rfl rfl ?_
    refine wp_iload_n dX11_in_6 rfl rfl ?_
    refine wp_icmp_gt (tgt := 14) dX11_in_7 (by decide) (fun c2 => ?_) (fun c2 => ?_)
    · replace h := h.1 c2
      refine wp_iconst (v := 0) dX11_in_14 (by decide) ?_
      exact wp_iret (ty := .boolean) dX11_in_15 rfl rfl h
    · replace h := h.2 c2
      refine wp_iconst (v := 1) dX11_in_10 (by decide) ?_
      refine wp_goto (tgt := 15) dX11_in_11 (by decide) ?_
      exact wp_iret (ty := .boolean) dX11_in_15 rfl rfl h
abbrev C_X11_refuse (G : Glob) (x1 : Int32) (M : Mem) (Q : Option Value → Mem → Prop) : Prop := WpM G 1 Y_X11_refuse [.ref (ad G 71), .int x1] M Q
set_option maxRecDepth 20000 in
theorem v_X11_refuse {G : Glob} {x1 : Int32} {M : Mem} {Q : Option Value → Mem → Prop}  (h : (∀ M1 : Mem, M1 = upI M 71 3 x1 → (vp_in x1 6 ∧ (vp_in x1 6 ∧ (∀ M4 : Mem, M4 = upI M1 72 (x1.toNatClampNeg) ((M1.1 72 x1.toNatClampNeg) + 1) → Q (some (.int (-3 : Int32))) M4))))) : C_X11_refuse G x1 M Q := by
  refine wp_enter (ls0 := [some (.ref (ad G 71)), some (.int x1)]) (by decide +kernel) (Nat.le_of_ble_eq_true rfl) rfl ?_
  refine wp_aload_n dX11_refuse_0 rfl rfl ?_
  refine wp_iload_n dX11_refuse_1 rfl rfl ?_
  refine wp_putI dX11_refuse_2 rfl fp_11_3 m_4_158 ?_
  refine wp_topM (fun M1 hM1 => ?_)
  replace h := h M1 hM1
  refine wp_aload_n dX11_refuse_5 rfl rfl ?_
  refine wp_getR (b := 72) dX11_refuse_6 rfl rfl fb_11_4 m_4_159 ?_
  refine wp_iload_n dX11_refuse_9 rfl rfl ?_
  refine wp_dup2 dX11_refuse_10 rfl rfl ?_
  obtain ⟨b2, h⟩ := h
  refine wp_iald (n := 6) dX11_refuse_11 rfl rfl b2 ?_
  refine wp_iconst (v := 1) dX11_refuse_12 (by decide) ?_
  refine wp_iadd dX11_refuse_13 ?_
  obtain ⟨b3, h⟩ := h
  refine wp_iast (n := 6) dX11_refuse_14 rfl rfl b3 ?_
  refine wp_topM (fun M4 hM4 => ?_)
  replace h := h M4 hM4
  refine wp_bipush (v := (-3 : Int32)) dX11_refuse_15 (by decide) ?_
  exact wp_iret (ty := .int) dX11_refuse_17 rfl rfl h
abbrev C_X11_tellsAsked (G : Glob) (x1 : Int32) (M : Mem) (Q : Option Value → Mem → Prop) : Prop := WpM G 1 Y_X11_tellsAsked [.ref (ad G 71), .int x1] M Q
set_option maxRecDepth 20000 in
theorem v_X11_tellsAsked {G : Glob} {x1 : Int32} {M : Mem} {Q : Option Value → Mem → Prop}  (h : (∀ M1 : Mem, M1 = upI M 71 0 x1 → Q (some (.int 1)) M1)) : C_X11_tellsAsked G x1 M Q := by
  refine wp_enter (ls0 := [some (.ref (ad G 71)), some (.int x1)]) (by decide +kernel) (Nat.le_of_ble_eq_true rfl) rfl ?_
  refine wp_aload_n dX11_tellsAsked_0 rfl rfl ?_
  refine wp_iload_n dX11_tellsAsked_1 rfl rfl ?_
  refine wp_putI dX11_tellsAsked_2 rfl fp_11_0 m_4_155 ?_
  refine wp_topM (fun M1 hM1 => ?_)
  replace h := h M1 hM1
  refine wp_iconst (v := 1) dX11_tellsAsked_5 (by decide) ?_
  exact wp_iret (ty := .int) dX11_tellsAsked_6 rfl rfl h
abbrev P_X11_tellPart_6 (G : Glob) (x1 : Int64) (x3 : Int64) (x5 : Int64) (x7 : Int64) (M : Mem) (Q : Option Value → Mem → Prop) : Prop := Wp G 1 Y_X11_tellPart 6 [some (.ref (ad G 71)), some (.long x1), none, some (.long x3), none, some (.long x5), none, some (.long x7), none, none, none] [] M Q
set_option maxRecDepth 20000 in
theorem v_X11_tellPart_6 {G : Glob} {x1 : Int64} {x3 : Int64} {x5 : Int64} {x7 : Int64} {M : Mem} {Q : Option Value → Mem → Prop}  (h : ((lg_cmp x7 0 = 0 → (¬ x5 = 0 ∧ (∀ M2 : Mem, M2 = upL M 71 1 (x1 / x5) → (¬ x5 = 0 ∧ (∀ M3 : Mem, M3 = upL M2 71 2 (x3 / x5) → Q none M3))))) ∧ (¬ lg_cmp x7 0 = 0 → (¬ x7 = 0 ∧ P_X11_tellPart_6 G x1 x3 x7 (x5 - x5 / x7 * x7) M Q)))) : P_X11_tellPart_6 G x1 x3 x5 x7 M Q := by
  refine wp_lload dX11_tellPart_6 rfl ?_
  refine wp_lconst (v := 0) dX11_tellPart_8 (by decide) ?_
  refine wp_lcmp dX11_tellPart_9 ?_
  refine wp_if_eq (tgt := 31) dX11_tellPart_10 (by decide) (fun c1 => ?_) (fun c1 => ?_)
  · replace h := h.1 c1
    refine wp_aload_n dX11_tellPart_31 rfl rfl ?_
    refine wp_lload_n dX11_tellPart_32 rfl rfl ?_
    refine wp_lload dX11_tellPart_33 rfl ?_
    refine wp_ldiv dX11_tellPart_35 h.1 ?_
    replace h := h.2
    refine wp_putL dX11_tellPart_36 rfl fp_11_1 m_4_156 ?_
    refine wp_topM (fun M2 hM2 => ?_)
    replace h := h M2 hM2
    refine wp_aload_n dX11_tellPart_39 rfl rfl ?_
    refine wp_lload_n dX11_tellPart_40 rfl rfl ?_
    refine wp_lload dX11_tellPart_41 rfl ?_
    refine wp_ldiv dX11_tellPart_43 h.1 ?_
    replace h := h.2
    refine wp_putL dX11_tellPart_44 rfl fp_11_2 m_4_157 ?_
    refine wp_topM (fun M3 hM3 => ?_)
    replace h := h M3 hM3
    exact wp_vret dX11_tellPart_47 rfl h
  · replace h := h.2 c1
    refine wp_lload dX11_tellPart_13 rfl ?_
    refine wp_lload dX11_tellPart_15 rfl ?_
    refine wp_lrem dX11_tellPart_17 h.1 ?_
    replace h := h.2
    refine wp_lstore (ls' := [some (.ref (ad G 71)), some (.long x1), none, some (.long x3), none, some (.long x5), none, some (.long x7), none, some (.long (x5 - x5 / x7 * x7)), none]) dX11_tellPart_18 (by decide) rfl rfl ?_
    refine wp_lload dX11_tellPart_20 rfl ?_
    refine wp_lstore (ls' := [some (.ref (ad G 71)), some (.long x1), none, some (.long x3), none, some (.long x7), none, some (.long x7), none, some (.long (x5 - x5 / x7 * x7)), none]) dX11_tellPart_22 (by decide) rfl rfl ?_
    refine wp_lload dX11_tellPart_24 rfl ?_
    refine wp_lstore (ls' := [some (.ref (ad G 71)), some (.long x1), none, some (.long x3), none, some (.long x7), none, some (.long (x5 - x5 / x7 * x7)), none, some (.long (x5 - x5 / x7 * x7)), none]) dX11_tellPart_26 (by decide) rfl rfl ?_
    refine wp_goto (tgt := 6) dX11_tellPart_28 (by decide) ?_
    exact wp_mask [true, true, false, true, false, true, false, true, false, false, false] rfl h
abbrev C_X11_tellPart (G : Glob) (x1 : Int64) (x3 : Int64) (M : Mem) (Q : Option Value → Mem → Prop) : Prop := WpM G 1 Y_X11_tellPart [.ref (ad G 71), .long x1, .long x3] M Q
set_option maxRecDepth 20000 in
theorem v_X11_tellPart {G : Glob} {x1 : Int64} {x3 : Int64} {M : Mem} {Q : Option Value → Mem → Prop}  (h : P_X11_tellPart_6 G x1 x3 x1 x3 M Q) : C_X11_tellPart G x1 x3 M Q := by
  refine wp_enter (ls0 := [some (.ref (ad G 71)), some (.long x1), none, some (.long x3), none, none, none, none, none, none, none]) (by decide +kernel) (Nat.le_of_ble_eq_true rfl) rfl ?_
  refine wp_lload_n dX11_tellPart_0 rfl rfl ?_
  refine wp_lstore (ls' := [some (.ref (ad G 71)), some (.long x1), none, some (.long x3), none, some (.long x1), none, none, none, none, none]) dX11_tellPart_1 (by decide) rfl rfl ?_
  refine wp_lload_n dX11_tellPart_3 rfl rfl ?_
  refine wp_lstore (ls' := [some (.ref (ad G 71)), some (.long x1), none, some (.long x3), none, some (.long x1), none, some (.long x3), none, none, none]) dX11_tellPart_4 (by decide) rfl rfl ?_
  exact h
abbrev C_X11_isRow (G : Glob) (x0 : Int32) (M : Mem) (Q : Option Value → Mem → Prop) : Prop := WpM G 2 Y_X11_isRow [.int x0] M Q
set_option maxRecDepth 20000 in
theorem v_X11_isRow {G : Glob} {x0 : Int32} {M : Mem} {Q : Option Value → Mem → Prop}  (h : (WpM G 1 Y_X11_in [.int x0, .int 0, .int 5] M (RI (fun r2 M1 => (narrow .boolean (.int r2) = .int r2 ∧ Q (some (.int r2)) M1))))) : C_X11_isRow G x0 M Q := by
  refine wp_enter (ls0 := [some (.int x0)]) (by decide +kernel) (Nat.le_of_ble_eq_true rfl) rfl ?_
  refine wp_iload_n dX11_isRow_0 rfl rfl ?_
  refine wp_iconst (v := 0) dX11_isRow_1 (by decide) ?_
  refine wp_iconst (v := 5) dX11_isRow_2 (by decide) ?_
  refine wp_callSI (d1 := 1) (As := [.int x0, .int 0, .int 5]) (st := []) dX11_isRow_3 cm_X11_in m_5_32 (by decide) rfl (Nat.le_of_ble_eq_true rfl) rfl h ?_
  intro r2 M1 h
  exact wp_iret (ty := .boolean) dX11_isRow_6 rfl h.1 h.2
abbrev P_X11_clearRow_9 (G : Glob) (x1 : Int32) (x3 : Int32) (M : Mem) (Q : Option Value → Mem → Prop) : Prop := Wp G 1 Y_X11_clearRow 9 [some (.ref (ad G 71)), some (.int x1), none, some (.int x3)] [] M Q
set_option maxRecDepth 20000 in
theorem v_X11_clearRow_9 {G : Glob} {x1 : Int32} {x3 : Int32} {M : Mem} {Q : Option Value → Mem → Prop}  (h : ((x3 < 40 → (vp_in ((40 * x1) + x3) 240 ∧ (∀ M3 : Mem, M3 = upI M 73 (((40 * x1) + x3).toNatClampNeg) 0 → P_X11_clearRow_9 G x1 (x3 + 1) M3 Q))) ∧ (¬ x3 < 40 → Q none M))) : P_X11_clearRow_9 G x1 x3 M Q := by
  refine wp_iload_n dX11_clearRow_9 rfl rfl ?_
  refine wp_bipush (v := 40) dX11_clearRow_10 (by decide) ?_
  refine wp_icmp_ge (tgt := 33) dX11_clearRow_12 (by decide) (fun c1 => ?_) (fun c1 => ?_)
  · replace h := h.2 c1
    exact wp_vret dX11_clearRow_33 rfl h
  · replace h := h.1 c1
    refine wp_aload_n dX11_clearRow_15 rfl rfl ?_
    refine wp_getR (b := 73) dX11_clearRow_16 rfl rfl fb_11_5 m_4_160 ?_
    refine wp_bipush (v := 40) dX11_clearRow_19 (by decide) ?_
    refine wp_iload_n dX11_clearRow_21 rfl rfl ?_
    refine wp_imul dX11_clearRow_22 ?_
    refine wp_iload_n dX11_clearRow_23 rfl rfl ?_
    refine wp_iadd dX11_clearRow_24 ?_
    refine wp_iconst (v := 0) dX11_clearRow_25 (by decide) ?_
    obtain ⟨b2, h⟩ := h
    refine wp_iast (n := 240) dX11_clearRow_26 rfl rfl b2 ?_
    refine wp_topM (fun M3 hM3 => ?_)
    replace h := h M3 hM3
    refine wp_iinc (v := (x3 + 1)) (ls' := [some (.ref (ad G 71)), some (.int x1), none, some (.int (x3 + 1))]) dX11_clearRow_27 rfl rfl (by decide) rfl rfl ?_
    refine wp_goto (tgt := 9) dX11_clearRow_30 (by decide) ?_
    exact h
abbrev C_X11_clearRow (G : Glob) (x1 : Int32) (x2 : Int32) (M : Mem) (Q : Option Value → Mem → Prop) : Prop := WpM G 1 Y_X11_clearRow [.ref (ad G 71), .int x1, .int x2] M Q
set_option maxRecDepth 20000 in
theorem v_X11_clearRow {G : Glob} {x1 : Int32} {x2 : Int32} {M : Mem} {Q : Option Value → Mem → Prop}  (h : (vp_in x1 6 ∧ (∀ M2 : Mem, M2 = upI M 74 (x1.toNatClampNeg) x2 → P_X11_clearRow_9 G x1 0 M2 Q))) : C_X11_clearRow G x1 x2 M Q := by
  refine wp_enter (ls0 := [some (.ref (ad G 71)), some (.int x1), some (.int x2), none]) (by decide +kernel) (Nat.le_of_ble_eq_true rfl) rfl ?_
  refine wp_aload_n dX11_clearRow_0 rfl rfl ?_
  refine wp_getR (b := 74) dX11_clearRow_1 rfl rfl fb_11_6 m_4_161 ?_
  refine wp_iload_n dX11_clearRow_4 rfl rfl ?_
  refine wp_iload_n dX11_clearRow_5 rfl rfl ?_
  obtain ⟨b1, h⟩ := h
  refine wp_iast (n := 6) dX11_clearRow_6 rfl rfl b1 ?_
  refine wp_topM (fun M2 hM2 => ?_)
  replace h := h M2 hM2
  refine wp_iconst (v := 0) dX11_clearRow_7 (by decide) ?_
  refine wp_istore_n (ls' := [some (.ref (ad G 71)), some (.int x1), some (.int x2), some (.int 0)]) dX11_clearRow_8 rfl (by decide) rfl rfl ?_
  exact wp_mask [true, true, false, true] rfl h
abbrev C_X11_row (G : Glob) (x1 : Int32) (x2 : Int32) (M : Mem) (Q : Option Value → Mem → Prop) : Prop := WpM G 3 Y_X11_row [.ref (ad G 71), .int x1, .int x2] M Q
set_option maxRecDepth 20000 in
theorem v_X11_row {G : Glob} {x1 : Int32} {x2 : Int32} {M : Mem} {Q : Option Value → Mem → Prop}  (h : (WpM G 2 Y_X11_isRow [.int x1] M (RI (fun r2 M1 => ((r2 = 0 → Q (some (.int (-1 : Int32))) M1) ∧ (¬ r2 = 0 → (((40 : Int32) < x2 → Q (some (.int (-1 : Int32))) M1) ∧ (¬ (40 : Int32) < x2 → ((x2 < 0 → (WpM G 1 Y_X11_refuse [.ref (ad G 71), .int 5] M1 (RI (fun r8 M7 => Q (some (.int r8)) M7)))) ∧ (¬ x2 < 0 → (WpM G 1 Y_X11_clearRow [.ref (ad G 71), .int x1, .int x2] M1 (RV (fun M6 => Q (some (.int x2)) M6))))))))))))) : C_X11_row G x1 x2 M Q := by
  refine wp_enter (ls0 := [some (.ref (ad G 71)), some (.int x1), some (.int x2)]) (by decide +kernel) (Nat.le_of_ble_eq_true rfl) rfl ?_
  refine wp_iload_n dX11_row_0 rfl rfl ?_
  refine wp_callSI (d1 := 2) (As := [.int x1]) (st := []) dX11_row_1 cm_X11_isRow m_5_29 (by decide) rfl (Nat.le_of_ble_eq_true rfl) rfl h ?_
  intro r2 M1 h
  refine wp_if_eq (tgt := 13) dX11_row_4 (by decide) (fun c3 => ?_) (fun c3 => ?_)
  · replace h := h.1 c3
    refine wp_iconst (v := (-1 : Int32)) dX11_row_13 (by decide) ?_
    exact wp_iret (ty := .int) dX11_row_14 rfl rfl h
  · replace h := h.2 c3
    refine wp_iload_n dX11_row_7 rfl rfl ?_
    refine wp_bipush (v := 40) dX11_row_8 (by decide) ?_
    refine wp_icmp_le (tgt := 15) dX11_row_10 (by decide) (fun c4 => ?_) (fun c4 => ?_)
    · replace h := h.2 c4
      refine wp_iload_n dX11_row_15 rfl rfl ?_
      refine wp_if_ge (tgt := 25) dX11_row_16 (by decide) (fun c5 => ?_) (fun c5 => ?_)
      · replace h := h.2 c5
        refine wp_aload_n dX11_row_25 rfl rfl ?_
        refine wp_iload_n dX11_row_26 rfl rfl ?_
        refine wp_iload_n dX11_row_27 rfl rfl ?_
        refine wp_callVV (a := 71) (d1 := 1) (As := [.int x1, .int x2]) (st := []) dX11_row_28 rfl cm_X11_clearRow m_5_39 (by decide) rfl (Nat.le_of_ble_eq_true rfl) rfl h ?_
        intro M6 h
        refine wp_iload_n dX11_row_31 rfl rfl ?_
        exact wp_iret (ty := .int) dX11_row_32 rfl rfl h
      · replace h := h.1 c5
        refine wp_aload_n dX11_row_19 rfl rfl ?_
        refine wp_iconst (v := 5) dX11_row_20 (by decide) ?_
        refine wp_callVI (a := 71) (d1 := 1) (As := [.int 5]) (st := []) dX11_row_21 rfl cm_X11_refuse m_5_35 (by decide) rfl (Nat.le_of_ble_eq_true rfl) rfl h ?_
        intro r8 M7 h
        exact wp_iret (ty := .int) dX11_row_24 rfl rfl h
    · replace h := h.1 c4
      refine wp_iconst (v := (-1 : Int32)) dX11_row_13 (by decide) ?_
      exact wp_iret (ty := .int) dX11_row_14 rfl rfl h
abbrev C_X11_lay (G : Glob) (x1 : Int32) (x2 : Int32) (x3 : Int32) (M : Mem) (Q : Option Value → Mem → Prop) : Prop := WpM G 3 Y_X11_lay [.ref (ad G 71), .int x1, .int x2, .int x3] M Q
set_option maxRecDepth 20000 in
theorem v_X11_lay {G : Glob} {x1 : Int32} {x2 : Int32} {x3 : Int32} {M : Mem} {Q : Option Value → Mem → Prop}  (h : (WpM G 2 Y_X11_isRow [.int x1] M (RI (fun r2 M1 => ((r2 = 0 → Q (some (.int (-1 : Int32))) M1) ∧ (¬ r2 = 0 → (vp_in x1 6 ∧ (((M1.1 74 x1.toNatClampNeg) < 0 → (WpM G 1 Y_X11_refuse [.ref (ad G 71), .int 1] M1 (RI (fun r19 M18 => Q (some (.int r19)) M18)))) ∧ (¬ (M1.1 74 x1.toNatClampNeg) < 0 → (vp_in x1 6 ∧ (WpM G 1 Y_X11_in [.int x2, .int 0, .int ((M1.1 74 x1.toNatClampNeg) - 1)] M1 (RI (fun r8 M7 => ((r8 = 0 → (WpM G 1 Y_X11_refuse [.ref (ad G 71), .int 2] M7 (RI (fun r17 M16 => Q (some (.int r17)) M16)))) ∧ (¬ r8 = 0 → (vp_in ((40 * x1) + x2) 240 ∧ (∀ y11 : Int32, y11 = (M7.1 73 ((40 * x1) + x2).toNatClampNeg) → (vp_in ((40 * x1) + x2) 240 ∧ (∀ M13 : Mem, M13 = upI M7 73 (((40 * x1) + x2).toNatClampNeg) x3 → (WpM G 1 Y_X11_tellsAsked [.ref (ad G 71), .int y11] M13 (RI (fun r15 M14 => Q (some (.int r15)) M14)))))))))))))))))))))) : C_X11_lay G x1 x2 x3 M Q := by
  refine wp_enter (ls0 := [some (.ref (ad G 71)), some (.int x1), some (.int x2), some (.int x3), none]) (by decide +kernel) (Nat.le_of_ble_eq_true rfl) rfl ?_
  refine wp_iload_n dX11_lay_0 rfl rfl ?_
  refine wp_callSI (d1 := 2) (As := [.int x1]) (st := []) dX11_lay_1 cm_X11_isRow m_5_29 (by decide) rfl (Nat.le_of_ble_eq_true rfl) rfl h ?_
  intro r2 M1 h
  refine wp_if_ne (tgt := 9) dX11_lay_4 (by decide) (fun c3 => ?_) (fun c3 => ?_)
  · replace h := h.2 c3
    refine wp_aload_n dX11_lay_9 rfl rfl ?_
    refine wp_getR (b := 74) dX11_lay_10 rfl rfl fb_11_6 m_4_161 ?_
    refine wp_iload_n dX11_lay_13 rfl rfl ?_
    obtain ⟨b4, h⟩ := h
    refine wp_iald (n := 6) dX11_lay_14 rfl rfl b4 ?_
    refine wp_if_ge (tgt := 24) dX11_lay_15 (by decide) (fun c5 => ?_) (fun c5 => ?_)
    · replace h := h.2 c5
      refine wp_iload_n dX11_lay_24 rfl rfl ?_
      refine wp_iconst (v := 0) dX11_lay_25 (by decide) ?_
      refine wp_aload_n dX11_lay_26 rfl rfl ?_
      refine wp_getR (b := 74) dX11_lay_27 rfl rfl fb_11_6 m_4_161 ?_
      refine wp_iload_n dX11_lay_30 rfl rfl ?_
      obtain ⟨b6, h⟩ := h
      refine wp_iald (n := 6) dX11_lay_31 rfl rfl b6 ?_
      refine wp_iconst (v := 1) dX11_lay_32 (by decide) ?_
      refine wp_isub dX11_lay_33 ?_
      refine wp_callSI (d1 := 1) (As := [.int x2, .int 0, .int ((M1.1 74 x1.toNatClampNeg) - 1)]) (st := []) dX11_lay_34 cm_X11_in m_5_32 (by decide) rfl (Nat.le_of_ble_eq_true rfl) rfl h ?_
      intro r8 M7 h
      refine wp_if_ne (tgt := 46) dX11_lay_37 (by decide) (fun c9 => ?_) (fun c9 => ?_)
      · replace h := h.2 c9
        refine wp_aload_n dX11_lay_46 rfl rfl ?_
        refine wp_getR (b := 73) dX11_lay_47 rfl rfl fb_11_5 m_4_160 ?_
        refine wp_bipush (v := 40) dX11_lay_50 (by decide) ?_
        refine wp_iload_n dX11_lay_52 rfl rfl ?_
        refine wp_imul dX11_lay_53 ?_
        refine wp_iload_n dX11_lay_54 rfl rfl ?_
        refine wp_iadd dX11_lay_55 ?_
        obtain ⟨b10, h⟩ := h
        refine wp_iald (n := 240) dX11_lay_56 rfl rfl b10 ?_
        refine wp_topI (fun y11 hy11 => ?_)
        replace h := h y11 hy11
        refine wp_istore (ls' := [some (.ref (ad G 71)), some (.int x1), some (.int x2), some (.int x3), some (.int y11)]) dX11_lay_57 (by decide) rfl rfl ?_
        refine wp_aload_n dX11_lay_59 rfl rfl ?_
        refine wp_getR (b := 73) dX11_lay_60 rfl rfl fb_11_5 m_4_160 ?_
        refine wp_bipush (v := 40) dX11_lay_63 (by decide) ?_
        refine wp_iload_n dX11_lay_65 rfl rfl ?_
        refine wp_imul dX11_lay_66 ?_
        refine wp_iload_n dX11_lay_67 rfl rfl ?_
        refine wp_iadd dX11_lay_68 ?_
        refine wp_iload_n dX11_lay_69 rfl rfl ?_
        obtain ⟨b12, h⟩ := h
        refine wp_iast (n := 240) dX11_lay_70 rfl rfl b12 ?_
        refine wp_topM (fun M13 hM13 => ?_)
        replace h := h M13 hM13
        refine wp_aload_n dX11_lay_71 rfl rfl ?_
        refine wp_iload dX11_lay_72 rfl ?_
        refine wp_callVI (a := 71) (d1 := 1) (As := [.int y11]) (st := []) dX11_lay_74 rfl cm_X11_tellsAsked m_5_47 (by decide) rfl (Nat.le_of_ble_eq_true rfl) rfl h ?_
        intro r15 M14 h
        exact wp_iret (ty := .int) dX11_lay_77 rfl rfl h
      · replace h := h.1 c9
        refine wp_aload_n dX11_lay_40 rfl rfl ?_
        refine wp_iconst (v := 2) dX11_lay_41 (by decide) ?_
        refine wp_callVI (a := 71) (d1 := 1) (As := [.int 2]) (st := []) dX11_lay_42 rfl cm_X11_refuse m_5_35 (by decide) rfl (Nat.le_of_ble_eq_true rfl) rfl h ?_
        intro r17 M16 h
        exact wp_iret (ty := .int) dX11_lay_45 rfl rfl h
    · replace h := h.1 c5
      refine wp_aload_n dX11_lay_18 rfl rfl ?_
      refine wp_iconst (v := 1) dX11_lay_19 (by decide) ?_
      refine wp_callVI (a := 71) (d1 := 1) (As := [.int 1]) (st := []) dX11_lay_20 rfl cm_X11_refuse m_5_35 (by decide) rfl (Nat.le_of_ble_eq_true rfl) rfl h ?_
      intro r19 M18 h
      exact wp_iret (ty := .int) dX11_lay_23 rfl rfl h
  · replace h := h.1 c3
    refine wp_iconst (v := (-1 : Int32)) dX11_lay_7 (by decide) ?_
    exact wp_iret (ty := .int) dX11_lay_8 rfl rfl h
abbrev C_X11_at (G : Glob) (x1 : Int32) (x2 : Int32) (M : Mem) (Q : Option Value → Mem → Prop) : Prop := WpM G 3 Y_X11_at [.ref (ad G 71), .int x1, .int x2] M Q
set_option maxRecDepth 20000 in
theorem v_X11_at {G : Glob} {x1 : Int32} {x2 : Int32} {M : Mem} {Q : Option Value → Mem → Prop}  (h : (WpM G 2 Y_X11_isRow [.int x1] M (RI (fun r2 M1 => ((r2 = 0 → Q (some (.int (-1 : Int32))) M1) ∧ (¬ r2 = 0 → (vp_in x1 6 ∧ (((M1.1 74 x1.toNatClampNeg) < 0 → (WpM G 1 Y_X11_refuse [.ref (ad G 71), .int 1] M1 (RI (fun r16 M15 => Q (some (.int r16)) M15)))) ∧ (¬ (M1.1 74 x1.toNatClampNeg) < 0 → (vp_in x1 6 ∧ (WpM G 1 Y_X11_in [.int x2, .int 0, .int ((M1.1 74 x1.toNatClampNeg) - 1)] M1 (RI (fun r8 M7 => ((r8 = 0 → (WpM G 1 Y_X11_refuse [.ref (ad G 71), .int 2] M7 (RI (fun r14 M13 => Q (some (.int r14)) M13)))) ∧ (¬ r8 = 0 → (vp_in ((40 * x1) + x2) 240 ∧ (WpM G 1 Y_X11_tellsAsked [.ref (ad G 71), .int (M7.1 73 ((40 * x1) + x2).toNatClampNeg)] M7 (RI (fun r12 M11 => Q (some (.int r12)) M11))))))))))))))))))) : C_X11_at G x1 x2 M Q := by
  refine wp_enter (ls0 := [some (.ref (ad G 71)), some (.int x1), some (.int x2)]) (by decide +kernel) (Nat.le_of_ble_eq_true rfl) rfl ?_
  refine wp_iload_n dX11_at_0 rfl rfl ?_
  refine wp_callSI (d1 := 2) (As := [.int x1]) (st := []) dX11_at_1 cm_X11_isRow m_5_29 (by decide) rfl (Nat.le_of_ble_eq_true rfl) rfl h ?_
  intro r2 M1 h
  refine wp_if_ne (tgt := 9) dX11_at_4 (by decide) (fun c3 => ?_) (fun c3 => ?_)
  · replace h := h.2 c3
    refine wp_aload_n dX11_at_9 rfl rfl ?_
    refine wp_getR (b := 74) dX11_at_10 rfl rfl fb_11_6 m_4_161 ?_
    refine wp_iload_n dX11_at_13 rfl rfl ?_
    obtain ⟨b4, h⟩ := h
    refine wp_iald (n := 6) dX11_at_14 rfl rfl b4 ?_
    refine wp_if_ge (tgt := 24) dX11_at_15 (by decide) (fun c5 => ?_) (fun c5 => ?_)
    · replace h := h.2 c5
      refine wp_iload_n dX11_at_24 rfl rfl ?_
      refine wp_iconst (v := 0) dX11_at_25 (by decide) ?_
      refine wp_aload_n dX11_at_26 rfl rfl ?_
      refine wp_getR (b := 74) dX11_at_27 rfl rfl fb_11_6 m_4_161 ?_
      refine wp_iload_n dX11_at_30 rfl rfl ?_
      obtain ⟨b6, h⟩ := h
      refine wp_iald (n := 6) dX11_at_31 rfl rfl b6 ?_
      refine wp_iconst (v := 1) dX11_at_32 (by decide) ?_
      refine wp_isub dX11_at_33 ?_
      refine wp_callSI (d1 := 1) (As := [.int x2, .int 0, .int ((M1.1 74 x1.toNatClampNeg) - 1)]) (st := []) dX11_at_34 cm_X11_in m_5_32 (by decide) rfl (Nat.le_of_ble_eq_true rfl) rfl h ?_
      intro r8 M7 h
      refine wp_if_ne (tgt := 46) dX11_at_37 (by decide) (fun c9 => ?_) (fun c9 => ?_)
      · replace h := h.2 c9
        refine wp_aload_n dX11_at_46 rfl rfl ?_
        refine wp_aload_n dX11_at_47 rfl rfl ?_
        refine wp_getR (b := 73) dX11_at_48 rfl rfl fb_11_5 m_4_160 ?_
        refine wp_bipush (v := 40) dX11_at_51 (by decide) ?_
        refine wp_iload_n dX11_at_53 rfl rfl ?_
        refine wp_imul dX11_at_54 ?_
        refine wp_iload_n dX11_at_55 rfl rfl ?_
        refine wp_iadd dX11_at_56 ?_
        obtain ⟨b10, h⟩ := h
        refine wp_iald (n := 240) dX11_at_57 rfl rfl b10 ?_
        refine wp_callVI (a := 71) (d1 := 1) (As := [.int (M7.1 73 ((40 * x1) + x2).toNatClampNeg)]) (st := []) dX11_at_58 rfl cm_X11_tellsAsked m_5_47 (by decide) rfl (Nat.le_of_ble_eq_true rfl) rfl h ?_
        intro r12 M11 h
        exact wp_iret (ty := .int) dX11_at_61 rfl rfl h
      · replace h := h.1 c9
        refine wp_aload_n dX11_at_40 rfl rfl ?_
        refine wp_iconst (v := 2) dX11_at_41 (by decide) ?_
        refine wp_callVI (a := 71) (d1 := 1) (As := [.int 2]) (st := []) dX11_at_42 rfl cm_X11_refuse m_5_35 (by decide) rfl (Nat.le_of_ble_eq_true rfl) rfl h ?_
        intro r14 M13 h
        exact wp_iret (ty := .int) dX11_at_45 rfl rfl h
    · replace h := h.1 c5
      refine wp_aload_n dX11_at_18 rfl rfl ?_
      refine wp_iconst (v := 1) dX11_at_19 (by decide) ?_
      refine wp_callVI (a := 71) (d1 := 1) (As := [.int 1]) (st := []) dX11_at_20 rfl cm_X11_refuse m_5_35 (by decide) rfl (Nat.le_of_ble_eq_true rfl) rfl h ?_
      intro r16 M15 h
      exact wp_iret (ty := .int) dX11_at_23 rfl rfl h
  · replace h := h.1 c3
    refine wp_iconst (v := (-1 : Int32)) dX11_at_7 (by decide) ?_
    exact wp_iret (ty := .int) dX11_at_8 rfl rfl h
abbrev C_X11_tear (G : Glob) (x1 : Int32) (M : Mem) (Q : Option Value → Mem → Prop) : Prop := WpM G 3 Y_X11_tear [.ref (ad G 71), .int x1] M Q
set_option maxRecDepth 20000 in
theorem v_X11_tear {G : Glob} {x1 : Int32} {M : Mem} {Q : Option Value → Mem → Prop}  (h : (WpM G 2 Y_X11_isRow [.int x1] M (RI (fun r2 M1 => ((r2 = 0 → Q (some (.int (-1 : Int32))) M1) ∧ (¬ r2 = 0 → (vp_in x1 6 ∧ (((M1.1 74 x1.toNatClampNeg) < 0 → (WpM G 1 Y_X11_refuse [.ref (ad G 71), .int 1] M1 (RI (fun r9 M8 => Q (some (.int r9)) M8)))) ∧ (¬ (M1.1 74 x1.toNatClampNeg) < 0 → (vp_in x1 6 ∧ (∀ M7 : Mem, M7 = upI M1 74 (x1.toNatClampNeg) (-1 : Int32) → Q (some (.int 1)) M7))))))))))) : C_X11_tear G x1 M Q := by
  refine wp_enter (ls0 := [some (.ref (ad G 71)), some (.int x1)]) (by decide +kernel) (Nat.le_of_ble_eq_true rfl) rfl ?_
  refine wp_iload_n dX11_tear_0 rfl rfl ?_
  refine wp_callSI (d1 := 2) (As := [.int x1]) (st := []) dX11_tear_1 cm_X11_isRow m_5_29 (by decide) rfl (Nat.le_of_ble_eq_true rfl) rfl h ?_
  intro r2 M1 h
  refine wp_if_ne (tgt := 9) dX11_tear_4 (by decide) (fun c3 => ?_) (fun c3 => ?_)
  · replace h := h.2 c3
    refine wp_aload_n dX11_tear_9 rfl rfl ?_
    refine wp_getR (b := 74) dX11_tear_10 rfl rfl fb_11_6 m_4_161 ?_
    refine wp_iload_n dX11_tear_13 rfl rfl ?_
    obtain ⟨b4, h⟩ := h
    refine wp_iald (n := 6) dX11_tear_14 rfl rfl b4 ?_
    refine wp_if_ge (tgt := 24) dX11_tear_15 (by decide) (fun c5 => ?_) (fun c5 => ?_)
    · replace h := h.2 c5
      refine wp_aload_n dX11_tear_24 rfl rfl ?_
      refine wp_getR (b := 74) dX11_tear_25 rfl rfl fb_11_6 m_4_161 ?_
      refine wp_iload_n dX11_tear_28 rfl rfl ?_
      refine wp_iconst (v := (-1 : Int32)) dX11_tear_29 (by decide) ?_
      obtain ⟨b6, h⟩ := h
      refine wp_iast (n := 6) dX11_tear_30 rfl rfl b6 ?_
      refine wp_topM (fun M7 hM7 => ?_)
      replace h := h M7 hM7
      refine wp_iconst (v := 1) dX11_tear_31 (by decide) ?_
      exact wp_iret (ty := .int) dX11_tear_32 rfl rfl h
    · replace h := h.1 c5
      refine wp_aload_n dX11_tear_18 rfl rfl ?_
      refine wp_iconst (v := 1) dX11_tear_19 (by decide) ?_
      refine wp_callVI (a := 71) (d1 := 1) (As := [.int 1]) (st := []) dX11_tear_20 rfl cm_X11_refuse m_5_35 (by decide) rfl (Nat.le_of_ble_eq_true rfl) rfl h ?_
      intro r9 M8 h
      exact wp_iret (ty := .int) dX11_tear_23 rfl rfl h
  · replace h := h.1 c3
    refine wp_iconst (v := (-1 : Int32)) dX11_tear_7 (by decide) ?_
    exact wp_iret (ty := .int) dX11_tear_8 rfl rfl h
abbrev P_X11_copy_95 (G : Glob) (x1 : Int32) (x2 : Int32) (x3 : Int32) (x4 : Int32) (x5 : Int32) (x6 : Int32) (M : Mem) (Q : Option Value → Mem → Prop) : Prop := Wp G 3 Y_X11_copy 95 [some (.ref (ad G 71)), some (.int x1), some (.int x2), some (.int x3), some (.int x4), some (.int x5), some (.int x6)] [] M Q
abbrev P_X11_copy_132 (G : Glob) (x3 : Int32) (x4 : Int32) (x5 : Int32) (x6 : Int32) (M : Mem) (Q : Option Value → Mem → Prop) : Prop := Wp G 3 Y_X11_copy 132 [some (.ref (ad G 71)), none, none, some (.int x3), some (.int x4), some (.int x5), some (.int x6)] [] M Q
set_option maxRecDepth 20000 in
theorem v_X11_copy_95 {G : Glob} {x1 : Int32} {x2 : Int32} {x3 : Int32} {x4 : Int32} {x5 : Int32} {x6 : Int32} {M : Mem} {Q : Option Value → Mem → Prop}  (h : ((x6 < x5 → (vp_in (((40 * x1) + x2) + x6) 240 ∧ (vp_in x6 40 ∧ (∀ M4 : Mem, M4 = upI M 77 (x6.toNatClampNeg) (M.1 73 (((40 * x1) + x2) + x6).toNatClampNeg) → P_X11_copy_95 G x1 x2 x3 x4 x5 (x6 + 1) M4 Q)))) ∧ (¬ x6 < x5 → P_X11_copy_132 G x3 x4 x5 0 M Q))) : P_X11_copy_95 G x1 x2 x3 x4 x5 x6 M Q := by
  refine wp_iload dX11_copy_95 rfl ?_
  refine wp_iload dX11_copy_97 rfl ?_
  refine wp_icmp_ge (tgt := 129) dX11_copy_99 (by decide) (fun c1 => ?_) (fun c1 => ?_)
  · replace h := h.2 c1
    refine wp_iconst (v := 0) dX11_copy_129 (by decide) ?_
    refine wp_istore (ls' := [some (.ref (ad G 71)), some (.int x1), some (.int x2), some (.int x3), some (.int x4), some (.int x5), some (.int 0)]) dX11_copy_130 (by decide) rfl rfl ?_
    exact wp_mask [true, false, false, true, true, true, true] rfl h
  · replace h := h.1 c1
    refine wp_aload_n dX11_copy_102 rfl rfl ?_
    refine wp_getR (b := 77) dX11_copy_103 rfl rfl fb_11_9 m_4_164 ?_
    refine wp_iload dX11_copy_106 rfl ?_
    refine wp_aload_n dX11_copy_108 rfl rfl ?_
    refine wp_getR (b := 73) dX11_copy_109 rfl rfl fb_11_5 m_4_160 ?_
    refine wp_bipush (v := 40) dX11_copy_112 (by decide) ?_
    refine wp_iload_n dX11_copy_114 rfl rfl ?_
    refine wp_imul dX11_copy_115 ?_
    refine wp_iload_n dX11_copy_116 rfl rfl ?_
    refine wp_iadd dX11_copy_117 ?_
    refine wp_iload dX11_copy_118 rfl ?_
    refine wp_iadd dX11_copy_120 ?_
    obtain ⟨b2, h⟩ := h
    refine wp_iald (n := 240) dX11_copy_121 rfl rfl b2 ?_
    obtain ⟨b3, h⟩ := h
    refine wp_iast (n := 40) dX11_copy_122 rfl rfl b3 ?_
    refine wp_topM (fun M4 hM4 => ?_)
    replace h := h M4 hM4
    refine wp_iinc (v := (x6 + 1)) (ls' := [some (.ref (ad G 71)), some (.int x1), some (.int x2), some (.int x3), some (.int x4), some (.int x5), some (.int (x6 + 1))]) dX11_copy_123 rfl rfl (by decide) rfl rfl ?_
    refine wp_goto (tgt := 95) dX11_copy_126 (by decide) ?_
    exact h
set_option maxRecDepth 20000 in
theorem v_X11_copy_132 {G : Glob} {x3 : Int32} {x4 : Int32} {x5 : Int32} {x6 : Int32} {M : Mem} {Q : Option Value → Mem → Prop}  (h : ((x6 < x5 → (vp_in x6 40 ∧ (vp_in (((40 * x3) + x4) + x6) 240 ∧ (∀ M4 : Mem, M4 = upI M 73 ((((40 * x3) + x4) + x6).toNatClampNeg) (M.1 77 x6.toNatClampNeg) → P_X11_copy_132 G x3 x4 x5 (x6 + 1) M4 Q)))) ∧ (¬ x6 < x5 → Q (some (.int 1)) M))) : P_X11_copy_132 G x3 x4 x5 x6 M Q := by
  refine wp_iload dX11_copy_132 rfl ?_
  refine wp_iload dX11_copy_134 rfl ?_
  refine wp_icmp_ge (tgt := 167) dX11_copy_136 (by decide) (fun c1 => ?_) (fun c1 => ?_)
  · replace h := h.2 c1
    refine wp_iconst (v := 1) dX11_copy_167 (by decide) ?_
    exact wp_iret (ty := .int) dX11_copy_168 rfl rfl h
  · replace h := h.1 c1
    refine wp_aload_n dX11_copy_139 rfl rfl ?_
    refine wp_getR (b := 73) dX11_copy_140 rfl rfl fb_11_5 m_4_160 ?_
    refine wp_bipush (v := 40) dX11_copy_143 (by decide) ?_
    refine wp_iload_n dX11_copy_145 rfl rfl ?_
    refine wp_imul dX11_copy_146 ?_
    refine wp_iload dX11_copy_147 rfl ?_
    refine wp_iadd dX11_copy_149 ?_
    refine wp_iload dX11_copy_150 rfl ?_
    refine wp_iadd dX11_copy_152 ?_
    refine wp_aload_n dX11_copy_153 rfl rfl ?_
    refine wp_getR (b := 77) dX11_copy_154 rfl rfl fb_11_9 m_4_164 ?_
    refine wp_iload dX11_copy_157 rfl ?_
    obtain ⟨b2, h⟩ := h
    refine wp_iald (n := 40) dX11_copy_159 rfl rfl b2 ?_
    obtain ⟨b3, h⟩ := h
    refine wp_iast (n := 240) dX11_copy_160 rfl rfl b3 ?_
    refine wp_topM (fun M4 hM4 => ?_)
    replace h := h M4 hM4
    refine wp_iinc (v := (x6 + 1)) (ls' := [some (.ref (ad G 71)), none, none, some (.int x3), some (.int x4), some (.int x5), some (.int (x6 + 1))]) dX11_copy_161 rfl rfl (by decide) rfl rfl ?_
    refine wp_goto (tgt := 132) dX11_copy_164 (by decide) ?_
    exact h
abbrev C_X11_copy (G : Glob) (x1 : Int32) (x2 : Int32) (x3 : Int32) (x4 : Int32) (x5 : Int32) (M : Mem) (Q : Option Value → Mem → Prop) : Prop := WpM G 3 Y_X11_copy [.ref (ad G 71), .int x1, .int x2, .int x3, .int x4, .int x5] M Q
set_option maxRecDepth 20000 in
theorem v_X11_copy {G : Glob} {x1 : Int32} {x2 : Int32} {x3 : Int32} {x4 : Int32} {x5 : Int32} {M : Mem} {Q : Option Value → Mem → Prop}  (h : (WpM G 2 Y_X11_isRow [.int x1] M (RI (fun r2 M1 => ((r2 = 0 → Q (some (.int (-1 : Int32))) M1) ∧ (¬ r2 = 0 → (WpM G 2 Y_X11_isRow [.int x3] M1 (RI (fun r5 M4 => ((r5 = 0 → Q (some (.int (-1 : Int32))) M4) ∧ (¬ r5 = 0 → ((x5 < 0 → (WpM G 1 Y_X11_refuse [.ref (ad G 71), .int 5] M4 (RI (fun r29 M28 => Q (some (.int r29)) M28)))) ∧ (¬ x5 < 0 → (vp_in x1 6 ∧ (((M4.1 74 x1.toNatClampNeg) < 0 → (WpM G 1 Y_X11_refuse [.ref (ad G 71), .int 1] M4 (RI (fun r11 M10 => Q (some (.int r11)) M10)))) ∧ (¬ (M4.1 74 x1.toNatClampNeg) < 0 → (vp_in x3 6 ∧ (((M4.1 74 x3.toNatClampNeg) < 0 → (WpM G 1 Y_X11_refuse [.ref (ad G 71), .int 1] M4 (RI (fun r27 M26 => Q (some (.int r27)) M26)))) ∧ (¬ (M4.1 74 x3.toNatClampNeg) < 0 → (vp_in x1 6 ∧ (WpM G 1 Y_X11_in [.int x2, .int 0, .int ((M4.1 74 x1.toNatClampNeg) - x5)] M4 (RI (fun r16 M15 => ((r16 = 0 → (WpM G 1 Y_X11_refuse [.ref (ad G 71), .int 2] M15 (RI (fun r19 M18 => Q (some (.int r19)) M18)))) ∧ (¬ r16 = 0 → (vp_in x3 6 ∧ (WpM G 1 Y_X11_in [.int x4, .int 0, .int ((M15.1 74 x3.toNatClampNeg) - x5)] M15 (RI (fun r22 M21 => ((r22 = 0 → (WpM G 1 Y_X11_refuse [.ref (ad G 71), .int 2] M21 (RI (fun r25 M24 => Q (some (.int r25)) M24)))) ∧ (¬ r22 = 0 → P_X11_copy_95 G x1 x2 x3 x4 x5 0 M21 Q))))))))))))))))))))))))))))))) : C_X11_copy G x1 x2 x3 x4 x5 M Q := by
  refine wp_enter (ls0 := [some (.ref (ad G 71)), some (.int x1), some (.int x2), some (.int x3), some (.int x4), some (.int x5), none]) (by decide +kernel) (Nat.le_of_ble_eq_true rfl) rfl ?_
  refine wp_iload_n dX11_copy_0 rfl rfl ?_
  refine wp_callSI (d1 := 2) (As := [.int x1]) (st := []) dX11_copy_1 cm_X11_isRow m_5_29 (by decide) rfl (Nat.le_of_ble_eq_true rfl) rfl h ?_
  intro r2 M1 h
  refine wp_if_eq (tgt := 14) dX11_copy_4 (by decide) (fun c3 => ?_) (fun c3 => ?_)
  · replace h := h.1 c3
    refine wp_iconst (v := (-1 : Int32)) dX11_copy_14 (by decide) ?_
    exact wp_iret (ty := .int) dX11_copy_15 rfl rfl h
  · replace h := h.2 c3
    refine wp_iload_n dX11_copy_7 rfl rfl ?_
    refine wp_callSI (d1 := 2) (As := [.int x3]) (st := []) dX11_copy_8 cm_X11_isRow m_5_29 (by decide) rfl (Nat.le_of_ble_eq_true rfl) rfl h ?_
    intro r5 M4 h
    refine wp_if_ne (tgt := 16) dX11_copy_11 (by decide) (fun c6 => ?_) (fun c6 => ?_)
    · replace h := h.2 c6
      refine wp_iload dX11_copy_16 rfl ?_
      refine wp_if_ge (tgt := 27) dX11_copy_18 (by decide) (fun c7 => ?_) (fun c7 => ?_)
      · replace h := h.2 c7
        refine wp_aload_n dX11_copy_27 rfl rfl ?_
        refine wp_getR (b := 74) dX11_copy_28 rfl rfl fb_11_6 m_4_161 ?_
        refine wp_iload_n dX11_copy_31 rfl rfl ?_
        obtain ⟨b8, h⟩ := h
        refine wp_iald (n := 6) dX11_copy_32 rfl rfl b8 ?_
        refine wp_if_lt (tgt := 45) dX11_copy_33 (by decide) (fun c9 => ?_) (fun c9 => ?_)
        · replace h := h.1 c9
          refine wp_aload_n dX11_copy_45 rfl rfl ?_
          refine wp_iconst (v := 1) dX11_copy_46 (by decide) ?_
          refine wp_callVI (a := 71) (d1 := 1) (As := [.int 1]) (st := []) dX11_copy_47 rfl cm_X11_refuse m_5_35 (by decide) rfl (Nat.le_of_ble_eq_true rfl) rfl h ?_
          intro r11 M10 h
          exact wp_iret (ty := .int) dX11_copy_50 rfl rfl h
        · replace h := h.2 c9
          refine wp_aload_n dX11_copy_36 rfl rfl ?_
          refine wp_getR (b := 74) dX11_copy_37 rfl rfl fb_11_6 m_4_161 ?_
          refine wp_iload_n dX11_copy_40 rfl rfl ?_
          obtain ⟨b12, h⟩ := h
          refine wp_iald (n := 6) dX11_copy_41 rfl rfl b12 ?_
          refine wp_if_ge (tgt := 51) dX11_copy_42 (by decide) (fun c13 => ?_) (fun c13 => ?_)
          · replace h := h.2 c13
            refine wp_iload_n dX11_copy_51 rfl rfl ?_
            refine wp_iconst (v := 0) dX11_copy_52 (by decide) ?_
            refine wp_aload_n dX11_copy_53 rfl rfl ?_
            refine wp_getR (b := 74) dX11_copy_54 rfl rfl fb_11_6 m_4_161 ?_
            refine wp_iload_n dX11_copy_57 rfl rfl ?_
            obtain ⟨b14, h⟩ := h
            refine wp_iald (n := 6) dX11_copy_58 rfl rfl b14 ?_
            refine wp_iload dX11_copy_59 rfl ?_
            refine wp_isub dX11_copy_61 ?_
            refine wp_callSI (d1 := 1) (As := [.int x2, .int 0, .int ((M4.1 74 x1.toNatClampNeg) - x5)]) (st := []) dX11_copy_62 cm_X11_in m_5_32 (by decide) rfl (Nat.le_of_ble_eq_true rfl) rfl h ?_
            intro r16 M15 h
            refine wp_if_eq (tgt := 86) dX11_copy_65 (by decide) (fun c17 => ?_) (fun c17 => ?_)
            · replace h := h.1 c17
              refine wp_aload_n dX11_copy_86 rfl rfl ?_
              refine wp_iconst (v := 2) dX11_copy_87 (by decide) ?_
              refine wp_callVI (a := 71) (d1 := 1) (As := [.int 2]) (st := []) dX11_copy_88 rfl cm_X11_refuse m_5_35 (by decide) rfl (Nat.le_of_ble_eq_true rfl) rfl h ?_
              intro r19 M18 h
              exact wp_iret (ty := .int) dX11_copy_91 rfl rfl h
            · replace h := h.2 c17
              refine wp_iload dX11_copy_68 rfl ?_
              refine wp_iconst (v := 0) dX11_copy_70 (by decide) ?_
              refine wp_aload_n dX11_copy_71 rfl rfl ?_
              refine wp_getR (b := 74) dX11_copy_72 rfl rfl fb_11_6 m_4_161 ?_
              refine wp_iload_n dX11_copy_75 rfl rfl ?_
              obtain ⟨b20, h⟩ := h
              refine wp_iald (n := 6) dX11_copy_76 rfl rfl b20 ?_
              refine wp_iload dX11_copy_77 rfl ?_
              refine wp_isub dX11_copy_79 ?_
              refine wp_callSI (d1 := 1) (As := [.int x4, .int 0, .int ((M15.1 74 x3.toNatClampNeg) - x5)]) (st := []) dX11_copy_80 cm_X11_in m_5_32 (by decide) rfl (Nat.le_of_ble_eq_true rfl) rfl h ?_
              intro r22 M21 h
              refine wp_if_ne (tgt := 92) dX11_copy_83 (by decide) (fun c23 => ?_) (fun c23 => ?_)
              · replace h := h.2 c23
                refine wp_iconst (v := 0) dX11_copy_92 (by decide) ?_
                refine wp_istore (ls' := [some (.ref (ad G 71)), some (.int x1), some (.int x2), some (.int x3), some (.int x4), some (.int x5), some (.int 0)]) dX11_copy_93 (by decide) rfl rfl ?_
                exact h
              · replace h := h.1 c23
                refine wp_aload_n dX11_copy_86 rfl rfl ?_
                refine wp_iconst (v := 2) dX11_copy_87 (by decide) ?_
                refine wp_callVI (a := 71) (d1 := 1) (As := [.int 2]) (st := []) dX11_copy_88 rfl cm_X11_refuse m_5_35 (by decide) rfl (Nat.le_of_ble_eq_true rfl) rfl h ?_
                intro r25 M24 h
                exact wp_iret (ty := .int) dX11_copy_91 rfl rfl h
          · replace h := h.1 c13
            refine wp_aload_n dX11_copy_45 rfl rfl ?_
            refine wp_iconst (v := 1) dX11_copy_46 (by decide) ?_
            refine wp_callVI (a := 71) (d1 := 1) (As := [.int 1]) (st := []) dX11_copy_47 rfl cm_X11_refuse m_5_35 (by decide) rfl (Nat.le_of_ble_eq_true rfl) rfl h ?_
            intro r27 M26 h
            exact wp_iret (ty := .int) dX11_copy_50 rfl rfl h
      · replace h := h.1 c7
        refine wp_aload_n dX11_copy_21 rfl rfl ?_
        refine wp_iconst (v := 5) dX11_copy_22 (by decide) ?_
        refine wp_callVI (a := 71) (d1 := 1) (As := [.int 5]) (st := []) dX11_copy_23 rfl cm_X11_refuse m_5_35 (by decide) rfl (Nat.le_of_ble_eq_true rfl) rfl h ?_
        intro r29 M28 h
        exact wp_iret (ty := .int) dX11_copy_26 rfl rfl h
    · replace h := h.1 c6
      refine wp_iconst (v := (-1 : Int32)) dX11_copy_14 (by decide) ?_
      exact wp_iret (ty := .int) dX11_copy_15 rfl rfl h
abbrev P_X11_mean_44 (G : Glob) (x1 : Int32) (x2 : Int64) (x4 : Int32) (M : Mem) (Q : Option Value → Mem → Prop) : Prop := Wp G 3 Y_X11_mean 44 [some (.ref (ad G 71)), some (.int x1), some (.long x2), none, some (.int x4)] [] M Q
set_option maxRecDepth 20000 in
theorem v_X11_mean_44 {G : Glob} {x1 : Int32} {x2 : Int64} {x4 : Int32} {M : Mem} {Q : Option Value → Mem → Prop}  (h : (vp_in x1 6 ∧ ((x4 < (M.1 74 x1.toNatClampNeg) → (vp_in ((40 * x1) + x4) 240 ∧ (∀ y7 : Int64, y7 = (x2 + (M.1 73 ((40 * x1) + x4).toNatClampNeg).toInt64) → P_X11_mean_44 G x1 y7 (x4 + 1) M Q))) ∧ (¬ x4 < (M.1 74 x1.toNatClampNeg) → (vp_in x1 6 ∧ (¬ (M.1 74 x1.toNatClampNeg).toInt64 = 0 ∧ (WpM G 1 Y_X11_tellsAsked [.ref (ad G 71), .int ((x2 / (M.1 74 x1.toNatClampNeg).toInt64).toInt32)] M (RI (fun r5 M4 => Q (some (.int r5)) M4))))))))) : P_X11_mean_44 G x1 x2 x4 M Q := by
  refine wp_iload dX11_mean_44 rfl ?_
  refine wp_aload_n dX11_mean_46 rfl rfl ?_
  refine wp_getR (b := 74) dX11_mean_47 rfl rfl fb_11_6 m_4_161 ?_
  refine wp_iload_n dX11_mean_50 rfl rfl ?_
  obtain ⟨b1, h⟩ := h
  refine wp_iald (n := 6) dX11_mean_51 rfl rfl b1 ?_
  refine wp_icmp_ge (tgt := 77) dX11_mean_52 (by decide) (fun c2 => ?_) (fun c2 => ?_)
  · replace h := h.2 c2
    refine wp_aload_n dX11_mean_77 rfl rfl ?_
    refine wp_lload_n dX11_mean_78 rfl rfl ?_
    refine wp_aload_n dX11_mean_79 rfl rfl ?_
    refine wp_getR (b := 74) dX11_mean_80 rfl rfl fb_11_6 m_4_161 ?_
    refine wp_iload_n dX11_mean_83 rfl rfl ?_
    obtain ⟨b3, h⟩ := h
    refine wp_iald (n := 6) dX11_mean_84 rfl rfl b3 ?_
    refine wp_i2l dX11_mean_85 ?_
    refine wp_ldiv dX11_mean_86 h.1 ?_
    replace h := h.2
    refine wp_l2i dX11_mean_87 ?_
    refine wp_callVI (a := 71) (d1 := 1) (As := [.int ((x2 / (M.1 74 x1.toNatClampNeg).toInt64).toInt32)]) (st := []) dX11_mean_88 rfl cm_X11_tellsAsked m_5_47 (by decide) rfl (Nat.le_of_ble_eq_true rfl) rfl h ?_
    intro r5 M4 h
    exact wp_iret (ty := .int) dX11_mean_91 rfl rfl h
  · replace h := h.1 c2
    refine wp_lload_n dX11_mean_55 rfl rfl ?_
    refine wp_aload_n dX11_mean_56 rfl rfl ?_
    refine wp_getR (b := 73) dX11_mean_57 rfl rfl fb_11_5 m_4_160 ?_
    refine wp_bipush (v := 40) dX11_mean_60 (by decide) ?_
    refine wp_iload_n dX11_mean_62 rfl rfl ?_
    refine wp_imul dX11_mean_63 ?_
    refine wp_iload dX11_mean_64 rfl ?_
    refine wp_iadd dX11_mean_66 ?_
    obtain ⟨b6, h⟩ := h
    refine wp_iald (n := 240) dX11_mean_67 rfl rfl b6 ?_
    refine wp_i2l dX11_mean_68 ?_
    refine wp_ladd dX11_mean_69 ?_
    refine wp_topJ (fun y7 hy7 => ?_)
    replace h := h y7 hy7
    refine wp_lstore_n (ls' := [some (.ref (ad G 71)), some (.int x1), some (.long y7), none, some (.int x4)]) dX11_mean_70 rfl (by decide) rfl rfl ?_
    refine wp_iinc (v := (x4 + 1)) (ls' := [some (.ref (ad G 71)), some (.int x1), some (.long y7), none, some (.int (x4 + 1))]) dX11_mean_71 rfl rfl (by decide) rfl rfl ?_
    refine wp_goto (tgt := 44) dX11_mean_74 (by decide) ?_
    exact h
abbrev C_X11_mean (G : Glob) (x1 : Int32) (M : Mem) (Q : Option Value → Mem → Prop) : Prop := WpM G 3 Y_X11_mean [.ref (ad G 71), .int x1] M Q
set_option maxRecDepth 20000 in
theorem v_X11_mean {G : Glob} {x1 : Int32} {M : Mem} {Q : Option Value → Mem → Prop}  (h : (WpM G 2 Y_X11_isRow [.int x1] M (RI (fun r2 M1 => ((r2 = 0 → Q (some (.int (-1 : Int32))) M1) ∧ (¬ r2 = 0 → (vp_in x1 6 ∧ (((M1.1 74 x1.toNatClampNeg) < 0 → (WpM G 1 Y_X11_refuse [.ref (ad G 71), .int 1] M1 (RI (fun r11 M10 => Q (some (.int r11)) M10)))) ∧ (¬ (M1.1 74 x1.toNatClampNeg) < 0 → (vp_in x1 6 ∧ (((M1.1 74 x1.toNatClampNeg) = 0 → (WpM G 1 Y_X11_refuse [.ref (ad G 71), .int 4] M1 (RI (fun r9 M8 => Q (some (.int r9)) M8)))) ∧ (¬ (M1.1 74 x1.toNatClampNeg) = 0 → P_X11_mean_44 G x1 0 0 M1 Q)))))))))))) : C_X11_mean G x1 M Q := by
  refine wp_enter (ls0 := [some (.ref (ad G 71)), some (.int x1), none, none, none]) (by decide +kernel) (Nat.le_of_ble_eq_true rfl) rfl ?_
  refine wp_iload_n dX11_mean_0 rfl rfl ?_
  refine wp_callSI (d1 := 2) (As := [.int x1]) (st := []) dX11_mean_1 cm_X11_isRow m_5_29 (by decide) rfl (Nat.le_of_ble_eq_true rfl) rfl h ?_
  intro r2 M1 h
  refine wp_if_ne (tgt := 9) dX11_mean_4 (by decide) (fun c3 => ?_) (fun c3 => ?_)
  · replace h := h.2 c3
    refine wp_aload_n dX11_mean_9 rfl rfl ?_
    refine wp_getR (b := 74) dX11_mean_10 rfl rfl fb_11_6 m_4_161 ?_
    refine wp_iload_n dX11_mean_13 rfl rfl ?_
    obtain ⟨b4, h⟩ := h
    refine wp_iald (n := 6) dX11_mean_14 rfl rfl b4 ?_
    refine wp_if_ge (tgt := 24) dX11_mean_15 (by decide) (fun c5 => ?_) (fun c5 => ?_)
    · replace h := h.2 c5
      refine wp_aload_n dX11_mean_24 rfl rfl ?_
      refine wp_getR (b := 74) dX11_mean_25 rfl rfl fb_11_6 m_4_161 ?_
      refine wp_iload_n dX11_mean_28 rfl rfl ?_
      obtain ⟨b6, h⟩ := h
      refine wp_iald (n := 6) dX11_mean_29 rfl rfl b6 ?_
      refine wp_if_ne (tgt := 39) dX11_mean_30 (by decide) (fun c7 => ?_) (fun c7 => ?_)
      · replace h := h.2 c7
        refine wp_lconst (v := 0) dX11_mean_39 (by decide) ?_
        refine wp_lstore_n (ls' := [some (.ref (ad G 71)), some (.int x1), some (.long 0), none, none]) dX11_mean_40 rfl (by decide) rfl rfl ?_
        refine wp_iconst (v := 0) dX11_mean_41 (by decide) ?_
        refine wp_istore (ls' := [some (.ref (ad G 71)), some (.int x1), some (.long 0), none, some (.int 0)]) dX11_mean_42 (by decide) rfl rfl ?_
        exact h
      · replace h := h.1 c7
        refine wp_aload_n dX11_mean_33 rfl rfl ?_
        refine wp_iconst (v := 4) dX11_mean_34 (by decide) ?_
        refine wp_callVI (a := 71) (d1 := 1) (As := [.int 4]) (st := []) dX11_mean_35 rfl cm_X11_refuse m_5_35 (by decide) rfl (Nat.le_of_ble_eq_true rfl) rfl h ?_
        intro r9 M8 h
        exact wp_iret (ty := .int) dX11_mean_38 rfl rfl h
    · replace h := h.1 c5
      refine wp_aload_n dX11_mean_18 rfl rfl ?_
      refine wp_iconst (v := 1) dX11_mean_19 (by decide) ?_
      refine wp_callVI (a := 71) (d1 := 1) (As := [.int 1]) (st := []) dX11_mean_20 rfl cm_X11_refuse m_5_35 (by decide) rfl (Nat.le_of_ble_eq_true rfl) rfl h ?_
      intro r11 M10 h
      exact wp_iret (ty := .int) dX11_mean_23 rfl rfl h
  · replace h := h.1 c3
    refine wp_iconst (v := (-1 : Int32)) dX11_mean_7 (by decide) ?_
    exact wp_iret (ty := .int) dX11_mean_8 rfl rfl h
abbrev C_X11_isText (G : Glob) (x0 : Int32) (M : Mem) (Q : Option Value → Mem → Prop) : Prop := WpM G 2 Y_X11_isText [.int x0] M Q
set_option maxRecDepth 20000 in
theorem v_X11_isText {G : Glob} {x0 : Int32} {M : Mem} {Q : Option Value → Mem → Prop}  (h : (WpM G 1 Y_X11_in [.int x0, .int 0, .int 3] M (RI (fun r2 M1 => (narrow .boolean (.int r2) = .int r2 ∧ Q (some (.int r2)) M1))))) : C_X11_isText G x0 M Q := by
  refine wp_enter (ls0 := [some (.int x0)]) (by decide +kernel) (Nat.le_of_ble_eq_true rfl) rfl ?_
  refine wp_iload_n dX11_isText_0 rfl rfl ?_
  refine wp_iconst (v := 0) dX11_isText_1 (by decide) ?_
  refine wp_iconst (v := 3) dX11_isText_2 (by decide) ?_
  refine wp_callSI (d1 := 1) (As := [.int x0, .int 0, .int 3]) (st := []) dX11_isText_3 cm_X11_in m_5_32 (by decide) rfl (Nat.le_of_ble_eq_true rfl) rfl h ?_
  intro r2 M1 h
  exact wp_iret (ty := .boolean) dX11_isText_6 rfl h.1 h.2
abbrev P_X11_text_34 (G : Glob) (x1 : Int32) (x2 : Int32) (x3 : Int32) (M : Mem) (Q : Option Value → Mem → Prop) : Prop := Wp G 3 Y_X11_text 34 [some (.ref (ad G 71)), some (.int x1), some (.int x2), some (.int x3)] [] M Q
set_option maxRecDepth 20000 in
theorem v_X11_text_34 {G : Glob} {x1 : Int32} {x2 : Int32} {x3 : Int32} {M : Mem} {Q : Option Value → Mem → Prop}  (h : ((x3 < 60 → (vp_in ((60 * x1) + x3) 240 ∧ (∀ M3 : Mem, M3 = upI M 75 (((60 * x1) + x3).toNatClampNeg) (32 : Int32).toInt8.toInt32 → P_X11_text_34 G x1 x2 (x3 + 1) M3 Q))) ∧ (¬ x3 < 60 → Q (some (.int x2)) M))) : P_X11_text_34 G x1 x2 x3 M Q := by
  refine wp_iload_n dX11_text_34 rfl rfl ?_
  refine wp_bipush (v := 60) dX11_text_35 (by decide) ?_
  refine wp_icmp_ge (tgt := 59) dX11_text_37 (by decide) (fun c1 => ?_) (fun c1 => ?_)
  · replace h := h.2 c1
    refine wp_iload_n dX11_text_59 rfl rfl ?_
    exact wp_iret (ty := .int) dX11_text_60 rfl rfl h
  · replace h := h.1 c1
    refine wp_aload_n dX11_text_40 rfl rfl ?_
    refine wp_getR (b := 75) dX11_text_41 rfl rfl fb_11_7 m_4_162 ?_
    refine wp_bipush (v := 60) dX11_text_44 (by decide) ?_
    refine wp_iload_n dX11_text_46 rfl rfl ?_
    refine wp_imul dX11_text_47 ?_
    refine wp_iload_n dX11_text_48 rfl rfl ?_
    refine wp_iadd dX11_text_49 ?_
    refine wp_bipush (v := 32) dX11_text_50 (by decide) ?_
    obtain ⟨b2, h⟩ := h
    refine wp_bast (n := 240) dX11_text_52 rfl rfl b2 ?_
    refine wp_topM (fun M3 hM3 => ?_)
    replace h := h M3 hM3
    refine wp_iinc (v := (x3 + 1)) (ls' := [some (.ref (ad G 71)), some (.int x1), some (.int x2), some (.int (x3 + 1))]) dX11_text_53 rfl rfl (by decide) rfl rfl ?_
    refine wp_goto (tgt := 34) dX11_text_56 (by decide) ?_
    exact h
abbrev C_X11_text (G : Glob) (x1 : Int32) (x2 : Int32) (M : Mem) (Q : Option Value → Mem → Prop) : Prop := WpM G 3 Y_X11_text [.ref (ad G 71), .int x1, .int x2] M Q
set_option maxRecDepth 20000 in
theorem v_X11_text {G : Glob} {x1 : Int32} {x2 : Int32} {M : Mem} {Q : Option Value → Mem → Prop}  (h : (WpM G 2 Y_X11_isText [.int x1] M (RI (fun r2 M1 => ((r2 = 0 → Q (some (.int (-1 : Int32))) M1) ∧ (¬ r2 = 0 → (((60 : Int32) < x2 → Q (some (.int (-1 : Int32))) M1) ∧ (¬ (60 : Int32) < x2 → ((x2 < 0 → (WpM G 1 Y_X11_refuse [.ref (ad G 71), .int 5] M1 (RI (fun r9 M8 => Q (some (.int r9)) M8)))) ∧ (¬ x2 < 0 → (vp_in x1 4 ∧ (∀ M7 : Mem, M7 = upI M1 76 (x1.toNatClampNeg) x2 → P_X11_text_34 G x1 x2 0 M7 Q)))))))))))) : C_X11_text G x1 x2 M Q := by
  refine wp_enter (ls0 := [some (.ref (ad G 71)), some (.int x1), some (.int x2), none]) (by decide +kernel) (Nat.le_of_ble_eq_true rfl) rfl ?_
  refine wp_iload_n dX11_text_0 rfl rfl ?_
  refine wp_callSI (d1 := 2) (As := [.int x1]) (st := []) dX11_text_1 cm_X11_isText m_5_71 (by decide) rfl (Nat.le_of_ble_eq_true rfl) rfl h ?_
  intro r2 M1 h
  refine wp_if_eq (tgt := 13) dX11_text_4 (by decide) (fun c3 => ?_) (fun c3 => ?_)
  · replace h := h.1 c3
    refine wp_iconst (v := (-1 : Int32)) dX11_text_13 (by decide) ?_
    exact wp_iret (ty := .int) dX11_text_14 rfl rfl h
  · replace h := h.2 c3
    refine wp_iload_n dX11_text_7 rfl rfl ?_
    refine wp_bipush (v := 60) dX11_text_8 (by decide) ?_
    refine wp_icmp_le (tgt := 15) dX11_text_10 (by decide) (fun c4 => ?_) (fun c4 => ?_)
    · replace h := h.2 c4
      refine wp_iload_n dX11_text_15 rfl rfl ?_
      refine wp_if_ge (tgt := 25) dX11_text_16 (by decide) (fun c5 => ?_) (fun c5 => ?_)
      · replace h := h.2 c5
        refine wp_aload_n dX11_text_25 rfl rfl ?_
        refine wp_getR (b := 76) dX11_text_26 rfl rfl fb_11_8 m_4_163 ?_
        refine wp_iload_n dX11_text_29 rfl rfl ?_
        refine wp_iload_n dX11_text_30 rfl rfl ?_
        obtain ⟨b6, h⟩ := h
        refine wp_iast (n := 4) dX11_text_31 rfl rfl b6 ?_
        refine wp_topM (fun M7 hM7 => ?_)
        replace h := h M7 hM7
        refine wp_iconst (v := 0) dX11_text_32 (by decide) ?_
        refine wp_istore_n (ls' := [some (.ref (ad G 71)), some (.int x1), some (.int x2), some (.int 0)]) dX11_text_33 rfl (by decide) rfl rfl ?_
        exact h
      · replace h := h.1 c5
        refine wp_aload_n dX11_text_19 rfl rfl ?_
        refine wp_iconst (v := 5) dX11_text_20 (by decide) ?_
        refine wp_callVI (a := 71) (d1 := 1) (As := [.int 5]) (st := []) dX11_text_21 rfl cm_X11_refuse m_5_35 (by decide) rfl (Nat.le_of_ble_eq_true rfl) rfl h ?_
        intro r9 M8 h
        exact wp_iret (ty := .int) dX11_text_24 rfl rfl h
    · replace h := h.1 c4
      refine wp_iconst (v := (-1 : Int32)) dX11_text_13 (by decide) ?_
      exact wp_iret (ty := .int) dX11_text_14 rfl rfl h
abbrev C_X11_put (G : Glob) (x1 : Int32) (x2 : Int32) (x3 : Int32) (M : Mem) (Q : Option Value → Mem → Prop) : Prop := WpM G 3 Y_X11_put [.ref (ad G 71), .int x1, .int x2, .int x3] M Q
set_option maxRecDepth 20000 in
theorem v_X11_put {G : Glob} {x1 : Int32} {x2 : Int32} {x3 : Int32} {M : Mem} {Q : Option Value → Mem → Prop}  (h : (WpM G 2 Y_X11_isText [.int x1] M (RI (fun r2 M1 => ((r2 = 0 → Q (some (.int (-1 : Int32))) M1) ∧ (¬ r2 = 0 → (vp_in x1 4 ∧ (((M1.1 76 x1.toNatClampNeg) < 0 → (WpM G 1 Y_X11_refuse [.ref (ad G 71), .int 1] M1 (RI (fun r17 M16 => Q (some (.int r17)) M16)))) ∧ (¬ (M1.1 76 x1.toNatClampNeg) < 0 → (vp_in x1 4 ∧ (WpM G 1 Y_X11_in [.int x2, .int 0, .int ((M1.1 76 x1.toNatClampNeg) - 1)] M1 (RI (fun r8 M7 => ((r8 = 0 → (WpM G 1 Y_X11_refuse [.ref (ad G 71), .int 2] M7 (RI (fun r15 M14 => Q (some (.int r15)) M14)))) ∧ (¬ r8 = 0 → (vp_in ((60 * x1) + x2) 240 ∧ (∀ y11 : Int32, y11 = (M7.1 75 ((60 * x1) + x2).toNatClampNeg) → (vp_in ((60 * x1) + x2) 240 ∧ (∀ M13 : Mem, M13 = upI M7 75 (((60 * x1) + x2).toNatClampNeg) x3.toInt8.toInt32.toInt8.toInt32 → Q (some (.int (y11 + 1000))) M13))))))))))))))))))) : C_X11_put G x1 x2 x3 M Q := by
  refine wp_enter (ls0 := [some (.ref (ad G 71)), some (.int x1), some (.int x2), some (.int x3), none]) (by decide +kernel) (Nat.le_of_ble_eq_true rfl) rfl ?_
  refine wp_iload_n dX11_put_0 rfl rfl ?_
  refine wp_callSI (d1 := 2) (As := [.int x1]) (st := []) dX11_put_1 cm_X11_isText m_5_71 (by decide) rfl (Nat.le_of_ble_eq_true rfl) rfl h ?_
  intro r2 M1 h
  refine wp_if_ne (tgt := 9) dX11_put_4 (by decide) (fun c3 => ?_) (fun c3 => ?_)
  · replace h := h.2 c3
    refine wp_aload_n dX11_put_9 rfl rfl ?_
    refine wp_getR (b := 76) dX11_put_10 rfl rfl fb_11_8 m_4_163 ?_
    refine wp_iload_n dX11_put_13 rfl rfl ?_
    obtain ⟨b4, h⟩ := h
    refine wp_iald (n := 4) dX11_put_14 rfl rfl b4 ?_
    refine wp_if_ge (tgt := 24) dX11_put_15 (by decide) (fun c5 => ?_) (fun c5 => ?_)
    · replace h := h.2 c5
      refine wp_iload_n dX11_put_24 rfl rfl ?_
      refine wp_iconst (v := 0) dX11_put_25 (by decide) ?_
      refine wp_aload_n dX11_put_26 rfl rfl ?_
      refine wp_getR (b := 76) dX11_put_27 rfl rfl fb_11_8 m_4_163 ?_
      refine wp_iload_n dX11_put_30 rfl rfl ?_
      obtain ⟨b6, h⟩ := h
      refine wp_iald (n := 4) dX11_put_31 rfl rfl b6 ?_
      refine wp_iconst (v := 1) dX11_put_32 (by decide) ?_
      refine wp_isub dX11_put_33 ?_
      refine wp_callSI (d1 := 1) (As := [.int x2, .int 0, .int ((M1.1 76 x1.toNatClampNeg) - 1)]) (st := []) dX11_put_34 cm_X11_in m_5_32 (by decide) rfl (Nat.le_of_ble_eq_true rfl) rfl h ?_
      intro r8 M7 h
      refine wp_if_ne (tgt := 46) dX11_put_37 (by decide) (fun c9 => ?_) (fun c9 => ?_)
      · replace h := h.2 c9
        refine wp_aload_n dX11_put_46 rfl rfl ?_
        refine wp_getR (b := 75) dX11_put_47 rfl rfl fb_11_7 m_4_162 ?_
        refine wp_bipush (v := 60) dX11_put_50 (by decide) ?_
        refine wp_iload_n dX11_put_52 rfl rfl ?_
        refine wp_imul dX11_put_53 ?_
        refine wp_iload_n dX11_put_54 rfl rfl ?_
        refine wp_iadd dX11_put_55 ?_
        obtain ⟨b10, h⟩ := h
        refine wp_bald (n := 240) dX11_put_56 rfl rfl b10 ?_
        refine wp_topI (fun y11 hy11 => ?_)
        replace h := h y11 hy11
        refine wp_istore (ls' := [some (.ref (ad G 71)), some (.int x1), some (.int x2), some (.int x3), some (.int y11)]) dX11_put_57 (by decide) rfl rfl ?_
        refine wp_aload_n dX11_put_59 rfl rfl ?_
        refine wp_getR (b := 75) dX11_put_60 rfl rfl fb_11_7 m_4_162 ?_
        refine wp_bipush (v := 60) dX11_put_63 (by decide) ?_
        refine wp_iload_n dX11_put_65 rfl rfl ?_
        refine wp_imul dX11_put_66 ?_
        refine wp_iload_n dX11_put_67 rfl rfl ?_
        refine wp_iadd dX11_put_68 ?_
        refine wp_iload_n dX11_put_69 rfl rfl ?_
        refine wp_i2b dX11_put_70 ?_
        obtain ⟨b12, h⟩ := h
        refine wp_bast (n := 240) dX11_put_71 rfl rfl b12 ?_
        refine wp_topM (fun M13 hM13 => ?_)
        replace h := h M13 hM13
        refine wp_iload dX11_put_72 rfl ?_
        refine wp_sipush (v := 1000) dX11_put_74 (by decide) ?_
        refine wp_iadd dX11_put_77 ?_
        exact wp_iret (ty := .int) dX11_put_78 rfl rfl h
      · replace h := h.1 c9
        refine wp_aload_n dX11_put_40 rfl rfl ?_
        refine wp_iconst (v := 2) dX11_put_41 (by decide) ?_
        refine wp_callVI (a := 71) (d1 := 1) (As := [.int 2]) (st := []) dX11_put_42 rfl cm_X11_refuse m_5_35 (by decide) rfl (Nat.le_of_ble_eq_true rfl) rfl h ?_
        intro r15 M14 h
        exact wp_iret (ty := .int) dX11_put_45 rfl rfl h
    · replace h := h.1 c5
      refine wp_aload_n dX11_put_18 rfl rfl ?_
      refine wp_iconst (v := 1) dX11_put_19 (by decide) ?_
      refine wp_callVI (a := 71) (d1 := 1) (As := [.int 1]) (st := []) dX11_put_20 rfl cm_X11_refuse m_5_35 (by decide) rfl (Nat.le_of_ble_eq_true rfl) rfl h ?_
      intro r17 M16 h
      exact wp_iret (ty := .int) dX11_put_23 rfl rfl h
  · replace h := h.1 c3
    refine wp_iconst (v := (-1 : Int32)) dX11_put_7 (by decide) ?_
    exact wp_iret (ty := .int) dX11_put_8 rfl rfl h
abbrev C_X11_here (G : Glob)  (M : Mem) (Q : Option Value → Mem → Prop) : Prop := WpM G 1 Y_X11_here [.ref (ad G 71)] M Q
set_option maxRecDepth 20000 in
theorem v_X11_here {G : Glob} {M : Mem} {Q : Option Value → Mem → Prop}  (h : (vp_in (M.1 71 16) 4 ∧ (((M.1 71 17) < (M.1 76 (M.1 71 16).toNatClampNeg) → (vp_in ((60 * (M.1 71 16)) + (M.1 71 17)) 240 ∧ Q (some (.int (M.1 75 ((60 * (M.1 71 16)) + (M.1 71 17)).toNatClampNeg))) M)) ∧ (¬ (M.1 71 17) < (M.1 76 (M.1 71 16).toNatClampNeg) → Q (some (.int (-9 : Int32))) M)))) : C_X11_here G  M Q := by
  refine wp_enter (ls0 := [some (.ref (ad G 71))]) (by decide +kernel) (Nat.le_of_ble_eq_true rfl) rfl ?_
  refine wp_aload_n dX11_here_0 rfl rfl ?_
  refine wp_getI dX11_here_1 rfl fb_11_17 m_4_172 ?_
  refine wp_aload_n dX11_here_4 rfl rfl ?_
  refine wp_getR (b := 76) dX11_here_5 rfl rfl fb_11_8 m_4_163 ?_
  refine wp_aload_n dX11_here_8 rfl rfl ?_
  refine wp_getI dX11_here_9 rfl fb_11_16 m_4_171 ?_
  obtain ⟨b1, h⟩ := h
  refine wp_iald (n := 4) dX11_here_12 rfl rfl b1 ?_
  refine wp_icmp_ge (tgt := 36) dX11_here_13 (by decide) (fun c2 => ?_) (fun c2 => ?_)
  · replace h := h.2 c2
    refine wp_bipush (v := (-9 : Int32)) dX11_here_36 (by decide) ?_
    exact wp_iret (ty := .int) dX11_here_38 rfl rfl h
  · replace h := h.1 c2
    refine wp_aload_n dX11_here_16 rfl rfl ?_
    refine wp_getR (b := 75) dX11_here_17 rfl rfl fb_11_7 m_4_162 ?_
    refine wp_bipush (v := 60) dX11_here_20 (by decide) ?_
    refine wp_aload_n dX11_here_22 rfl rfl ?_
    refine wp_getI dX11_here_23 rfl fb_11_16 m_4_171 ?_
    refine wp_imul dX11_here_26 ?_
    refine wp_aload_n dX11_here_27 rfl rfl ?_
    refine wp_getI dX11_here_28 rfl fb_11_17 m_4_172 ?_
    refine wp_iadd dX11_here_31 ?_
    obtain ⟨b3, h⟩ := h
    refine wp_bald (n := 240) dX11_here_32 rfl rfl b3 ?_
    refine wp_goto (tgt := 38) dX11_here_33 (by decide) ?_
    exact wp_iret (ty := .int) dX11_here_38 rfl rfl h
abbrev P_X11_skip_0 (G : Glob)  (M : Mem) (Q : Option Value → Mem → Prop) : Prop := Wp G 2 Y_X11_skip 0 [some (.ref (ad G 71))] [] M Q
set_option maxRecDepth 20000 in
theorem v_X11_skip_0 {G : Glob} {M : Mem} {Q : Option Value → Mem → Prop}  (h : (WpM G 1 Y_X11_here [.ref (ad G 71)] M (RI (fun r2 M1 => ((r2 = 32 → (∀ M4 : Mem, M4 = upI M1 71 17 ((M1.1 71 17) + 1) → P_X11_skip_0 G  M4 Q)) ∧ (¬ r2 = 32 → Q none M1)))))) : P_X11_skip_0 G  M Q := by
  refine wp_aload_n dX11_skip_0 rfl rfl ?_
  refine wp_callVI (a := 71) (d1 := 1) (As := []) (st := []) dX11_skip_1 rfl cm_X11_here m_5_90 (by decide) rfl (Nat.le_of_ble_eq_true rfl) rfl h ?_
  intro r2 M1 h
  refine wp_bipush (v := 32) dX11_skip_4 (by decide) ?_
  refine wp_icmp_ne (tgt := 22) dX11_skip_6 (by decide) (fun c3 => ?_) (fun c3 => ?_)
  · replace h := h.2 c3
    exact wp_vret dX11_skip_22 rfl h
  · replace h := h.1 c3
    refine wp_aload_n dX11_skip_9 rfl rfl ?_
    refine wp_dup dX11_skip_10 rfl ?_
    refine wp_getI dX11_skip_11 rfl fb_11_17 m_4_172 ?_
    refine wp_iconst (v := 1) dX11_skip_14 (by decide) ?_
    refine wp_iadd dX11_skip_15 ?_
    refine wp_putI dX11_skip_16 rfl fp_11_17 m_4_172 ?_
    refine wp_topM (fun M4 hM4 => ?_)
    replace h := h M4 hM4
    refine wp_goto (tgt := 0) dX11_skip_19 (by decide) ?_
    exact h
abbrev C_X11_skip (G : Glob)  (M : Mem) (Q : Option Value → Mem → Prop) : Prop := WpM G 2 Y_X11_skip [.ref (ad G 71)] M Q
set_option maxRecDepth 20000 in
theorem v_X11_skip {G : Glob} {M : Mem} {Q : Option Value → Mem → Prop}  (h : P_X11_skip_0 G  M Q) : C_X11_skip G  M Q := by
  refine wp_enter (ls0 := [some (.ref (ad G 71))]) (by decide +kernel) (Nat.le_of_ble_eq_true rfl) rfl ?_
  exact h
abbrev C_X11_figure (G : Glob) (x1 : Int32) (x2 : Int32) (M : Mem) (Q : Option Value → Mem → Prop) : Prop := WpM G 2 Y_X11_figure [.ref (ad G 71), .int x1, .int x2] M Q
set_option maxRecDepth 20000 in
theorem v_X11_figure {G : Glob} {x1 : Int32} {x2 : Int32} {M : Mem} {Q : Option Value → Mem → Prop}  (h : (WpM G 1 Y_X11_here [.ref (ad G 71)] M (RI (fun r2 M1 => (((M1.1 71 18) = (-9 : Int32) → (WpM G 1 Y_X11_in [.int r2, .int (48 + x1), .int (48 + x2)] M1 (RI (fun r5 M4 => ((r5 = 0 → (∀ M8 : Mem, M8 = upI M4 71 18 (M4.1 71 17) → Q (some (.int 0)) M8)) ∧ (¬ r5 = 0 → (∀ M7 : Mem, M7 = upI M4 71 17 ((M4.1 71 17) + 1) → Q (some (.int (r2 - 48))) M7))))))) ∧ (¬ (M1.1 71 18) = (-9 : Int32) → Q (some (.int 0)) M1)))))) : C_X11_figure G x1 x2 M Q := by
  refine wp_enter (ls0 := [some (.ref (ad G 71)), some (.int x1), some (.int x2), none]) (by decide +kernel) (Nat.le_of_ble_eq_true rfl) rfl ?_
  refine wp_aload_n dX11_figure_0 rfl rfl ?_
  refine wp_callVI (a := 71) (d1 := 1) (As := []) (st := []) dX11_figure_1 rfl cm_X11_here m_5_90 (by decide) rfl (Nat.le_of_ble_eq_true rfl) rfl h ?_
  intro r2 M1 h
  refine wp_istore_n (ls' := [some (.ref (ad G 71)), some (.int x1), some (.int x2), some (.int r2)]) dX11_figure_4 rfl (by decide) rfl rfl ?_
  refine wp_aload_n dX11_figure_5 rfl rfl ?_
  refine wp_getI dX11_figure_6 rfl fb_11_18 m_4_173 ?_
  refine wp_bipush (v := (-9 : Int32)) dX11_figure_9 (by decide) ?_
  refine wp_icmp_eq (tgt := 16) dX11_figure_11 (by decide) (fun c3 => ?_) (fun c3 => ?_)
  · replace h := h.1 c3
    refine wp_iload_n dX11_figure_16 rfl rfl ?_
    refine wp_bipush (v := 48) dX11_figure_17 (by decide) ?_
    refine wp_iload_n dX11_figure_19 rfl rfl ?_
    refine wp_iadd dX11_figure_20 ?_
    refine wp_bipush (v := 48) dX11_figure_21 (by decide) ?_
    refine wp_iload_n dX11_figure_23 rfl rfl ?_
    refine wp_iadd dX11_figure_24 ?_
    refine wp_callSI (d1 := 1) (As := [.int r2, .int (48 + x1), .int (48 + x2)]) (st := []) dX11_figure_25 cm_X11_in m_5_32 (by decide) rfl (Nat.le_of_ble_eq_true rfl) rfl h ?_
    intro r5 M4 h
    refine wp_if_ne (tgt := 41) dX11_figure_28 (by decide) (fun c6 => ?_) (fun c6 => ?_)
    · replace h := h.2 c6
      refine wp_aload_n dX11_figure_41 rfl rfl ?_
      refine wp_dup dX11_figure_42 rfl ?_
      refine wp_getI dX11_figure_43 rfl fb_11_17 m_4_172 ?_
      refine wp_iconst (v := 1) dX11_figure_46 (by decide) ?_
      refine wp_iadd dX11_figure_47 ?_
      refine wp_putI dX11_figure_48 rfl fp_11_17 m_4_172 ?_
      refine wp_topM (fun M7 hM7 => ?_)
      replace h := h M7 hM7
      refine wp_iload_n dX11_figure_51 rfl rfl ?_
      refine wp_bipush (v := 48) dX11_figure_52 (by decide) ?_
      refine wp_isub dX11_figure_54 ?_
      exact wp_iret (ty := .int) dX11_figure_55 rfl rfl h
    · replace h := h.1 c6
      refine wp_aload_n dX11_figure_31 rfl rfl ?_
      refine wp_aload_n dX11_figure_32 rfl rfl ?_
      refine wp_getI dX11_figure_33 rfl fb_11_17 m_4_172 ?_
      refine wp_putI dX11_figure_36 rfl fp_11_18 m_4_173 ?_
      refine wp_topM (fun M8 hM8 => ?_)
      replace h := h M8 hM8
      refine wp_iconst (v := 0) dX11_figure_39 (by decide) ?_
      exact wp_iret (ty := .int) dX11_figure_40 rfl rfl h
  · replace h := h.2 c3
    refine wp_iconst (v := 0) dX11_figure_14 (by decide) ?_
    exact wp_iret (ty := .int) dX11_figure_15 rfl rfl h
abbrev C_X11_kindBy (G : Glob) (x0 : Int32) (M : Mem) (Q : Option Value → Mem → Prop) : Prop := WpM G 1 Y_X11_kindBy [.int x0] M Q
set_option maxRecDepth 20000 in
theorem v_X11_kindBy {G : Glob} {x0 : Int32} {M : Mem} {Q : Option Value → Mem → Prop}  (h : ((x0 = 101 → Q (some (.int 2)) M) ∧ (¬ x0 = 101 → ((x0 = 102 → Q (some (.int (-9 : Int32))) M) ∧ (¬ x0 = 102 → ((x0 = 103 → Q (some (.int 0)) M) ∧ (¬ x0 = 103 → ((x0 = 104 → Q (some (.int (-9 : Int32))) M) ∧ (¬ x0 = 104 → ((x0 = 105 → Q (some (.int (-9 : Int32))) M) ∧ (¬ x0 = 105 → ((x0 = 106 → Q (some (.int (-9 : Int32))) M) ∧ (¬ x0 = 106 → ((x0 = 107 → Q (some (.int (-9 : Int32))) M) ∧ (¬ x0 = 107 → ((x0 = 108 → Q (some (.int 4)) M) ∧ (¬ x0 = 108 → ((x0 = 109 → Q (some (.int 1)) M) ∧ (¬ x0 = 109 → ((x0 = 110 → Q (some (.int (-9 : Int32))) M) ∧ (¬ x0 = 110 → ((x0 = 111 → Q (some (.int (-9 : Int32))) M) ∧ (¬ x0 = 111 → ((x0 = 112 → Q (some (.int (-9 : Int32))) M) ∧ (¬ x0 = 112 → ((x0 = 113 → Q (some (.int (-9 : Int32))) M) ∧ (¬ x0 = 113 → ((x0 = 114 → Q (some (.int (-9 : Int32))) M) ∧ (¬ x0 = 114 → ((x0 = 115 → Q (some (.int 3)) M) ∧ (¬ x0 = 115 → ((x0 = 116 → Q (some (.int 5)) M) ∧ (¬ x0 = 116 → Q (some (.int (-9 : Int32))) M))))))))))))))))))))))))))))))))) : C_X11_kindBy G x0 M Q := by
  refine wp_enter (ls0 := [some (.int x0)]) (by decide +kernel) (Nat.le_of_ble_eq_true rfl) rfl ?_
  refine wp_iload_n dX11_kindBy_0 rfl rfl ?_
  rcases Decidable.em (x0 = 101) with n0 | n0
  · replace h := h.1 n0
    refine wp_tswI (tgt := 84) (v := 101) dX11_kindBy_1 n0 (by decide) (by decide) rfl (by decide) ?_
    refine wp_iconst (v := 2) dX11_kindBy_84 (by decide) ?_
    exact wp_iret (ty := .int) dX11_kindBy_85 rfl rfl h
  · replace h := h.2 n0
    rcases Decidable.em (x0 = 102) with n1 | n1
    · replace h := h.1 n1
      refine wp_tswI (tgt := 92) (v := 102) dX11_kindBy_1 n1 (by decide) (by decide) rfl (by decide) ?_
      refine wp_bipush (v := (-9 : Int32)) dX11_kindBy_92 (by decide) ?_
      exact wp_iret (ty := .int) dX11_kindBy_94 rfl rfl h
    · replace h := h.2 n1
      rcases Decidable.em (x0 = 103) with n2 | n2
      · replace h := h.1 n2
        refine wp_tswI (tgt := 80) (v := 103) dX11_kindBy_1 n2 (by decide) (by decide) rfl (by decide) ?_
        refine wp_iconst (v := 0) dX11_kindBy_80 (by decide) ?_
        exact wp_iret (ty := .int) dX11_kindBy_81 rfl rfl h
      · replace h := h.2 n2
        rcases Decidable.em (x0 = 104) with n3 | n3
        · replace h := h.1 n3
          refine wp_tswI (tgt := 92) (v := 104) dX11_kindBy_1 n3 (by decide) (by decide) rfl (by decide) ?_
          refine wp_bipush (v := (-9 : Int32)) dX11_kindBy_92 (by decide) ?_
          exact wp_iret (ty := .int) dX11_kindBy_94 rfl rfl h
        · replace h := h.2 n3
          rcases Decidable.em (x0 = 105) with n4 | n4
          · replace h := h.1 n4
            refine wp_tswI (tgt := 92) (v := 105) dX11_kindBy_1 n4 (by decide) (by decide) rfl (by decide) ?_
            refine wp_bipush (v := (-9 : Int32)) dX11_kindBy_92 (by decide) ?_
            exact wp_iret (ty := .int) dX11_kindBy_94 rfl rfl h
          · replace h := h.2 n4
            rcases Decidable.em (x0 = 106) with n5 | n5
            · replace h := h.1 n5
              refine wp_tswI (tgt := 92) (v := 106) dX11_kindBy_1 n5 (by decide) (by decide) rfl (by decide) ?_
              refine wp_bipush (v := (-9 : Int32)) dX11_kindBy_92 (by decide) ?_
              exact wp_iret (ty := .int) dX11_kindBy_94 rfl rfl h
            · replace h := h.2 n5
              rcases Decidable.em (x0 = 107) with n6 | n6
              · replace h := h.1 n6
                refine wp_tswI (tgt := 92) (v := 107) dX11_kindBy_1 n6 (by decide) (by decide) rfl (by decide) ?_
                refine wp_bipush (v := (-9 : Int32)) dX11_kindBy_92 (by decide) ?_
                exact wp_iret (ty := .int) dX11_kindBy_94 rfl rfl h
              · replace h := h.2 n6
                rcases Decidable.em (x0 = 108) with n7 | n7
                · replace h := h.1 n7
                  refine wp_tswI (tgt := 88) (v := 108) dX11_kindBy_1 n7 (by decide) (by decide) rfl (by decide) ?_
                  refine wp_iconst (v := 4) dX11_kindBy_88 (by decide) ?_
                  exact wp_iret (ty := .int) dX11_kindBy_89 rfl rfl h
                · replace h := h.2 n7
                  rcases Decidable.em (x0 = 109) with n8 | n8
                  · replace h := h.1 n8
                    refine wp_tswI (tgt := 82) (v := 109) dX11_kindBy_1 n8 (by decide) (by decide) rfl (by decide) ?_
                    refine wp_iconst (v := 1) dX11_kindBy_82 (by decide) ?_
                    exact wp_iret (ty := .int) dX11_kindBy_83 rfl rfl h
                  · replace h := h.2 n8
                    rcases Decidable.em (x0 = 110) with n9 | n9
                    · replace h := h.1 n9
                      refine wp_tswI (tgt := 92) (v := 110) dX11_kindBy_1 n9 (by decide) (by decide) rfl (by decide) ?_
                      refine wp_bipush (v := (-9 : Int32)) dX11_kindBy_92 (by decide) ?_
                      exact wp_iret (ty := .int) dX11_kindBy_94 rfl rfl h
                    · replace h := h.2 n9
                      rcases Decidable.em (x0 = 111) with n10 | n10
                      · replace h := h.1 n10
                        refine wp_tswI (tgt := 92) (v := 111) dX11_kindBy_1 n10 (by decide) (by decide) rfl (by decide) ?_
                        refine wp_bipush (v := (-9 : Int32)) dX11_kindBy_92 (by decide) ?_
                        exact wp_iret (ty := .int) dX11_kindBy_94 rfl rfl h
                      · replace h := h.2 n10
                        rcases Decidable.em (x0 = 112) with n11 | n11
                        · replace h := h.1 n11
                          refine wp_tswI (tgt := 92) (v := 112) dX11_kindBy_1 n11 (by decide) (by decide) rfl (by decide) ?_
                          refine wp_bipush (v := (-9 : Int32)) dX11_kindBy_92 (by decide) ?_
                          exact wp_iret (ty := .int) dX11_kindBy_94 rfl rfl h
                        · replace h := h.2 n11
                          rcases Decidable.em (x0 = 113) with n12 | n12
                          · replace h := h.1 n12
                            refine wp_tswI (tgt := 92) (v := 113) dX11_kindBy_1 n12 (by decide) (by decide) rfl (by decide) ?_
                            refine wp_bipush (v := (-9 : Int32)) dX11_kindBy_92 (by decide) ?_
                            exact wp_iret (ty := .int) dX11_kindBy_94 rfl rfl h
                          · replace h := h.2 n12
                            rcases Decidable.em (x0 = 114) with n13 | n13
                            · replace h := h.1 n13
                              refine wp_tswI (tgt := 92) (v := 114) dX11_kindBy_1 n13 (by decide) (by decide) rfl (by decide) ?_
                              refine wp_bipush (v := (-9 : Int32)) dX11_kindBy_92 (by decide) ?_
                              exact wp_iret (ty := .int) dX11_kindBy_94 rfl rfl h
                            · replace h := h.2 n13
                              rcases Decidable.em (x0 = 115) with n14 | n14
                              · replace h := h.1 n14
                                refine wp_tswI (tgt := 86) (v := 115) dX11_kindBy_1 n14 (by decide) (by decide) rfl (by decide) ?_
                                refine wp_iconst (v := 3) dX11_kindBy_86 (by decide) ?_
                                exact wp_iret (ty := .int) dX11_kindBy_87 rfl rfl h
                              · replace h := h.2 n14
                                rcases Decidable.em (x0 = 116) with n15 | n15
                                · replace h := h.1 n15
                                  refine wp_tswI (tgt := 90) (v := 116) dX11_kindBy_1 n15 (by decide) (by decide) rfl (by decide) ?_
                                  refine wp_iconst (v := 5) dX11_kindBy_90 (by decide) ?_
                                  exact wp_iret (ty := .int) dX11_kindBy_91 rfl rfl h
                                · replace h := h.2 n15
                                  refine wp_tswD (tgt := 92) dX11_kindBy_1 (by have e0 : (x0 : Int32).toInt ≠ 101 := fun e => n0 (Int32.toInt_inj.mp e); have e1 : (x0 : Int32).toInt ≠ 102 := fun e => n1 (Int32.toInt_inj.mp e); have e2 : (x0 : Int32).toInt ≠ 103 := fun e => n2 (Int32.toInt_inj.mp e); have e3 : (x0 : Int32).toInt ≠ 104 := fun e => n3 (Int32.toInt_inj.mp e); have e4 : (x0 : Int32).toInt ≠ 105 := fun e => n4 (Int32.toInt_inj.mp e); have e5 : (x0 : Int32).toInt ≠ 106 := fun e => n5 (Int32.toInt_inj.mp e); have e6 : (x0 : Int32).toInt ≠ 107 := fun e => n6 (Int32.toInt_inj.mp e); have e7 : (x0 : Int32).toInt ≠ 108 := fun e => n7 (Int32.toInt_inj.mp e); have e8 : (x0 : Int32).toInt ≠ 109 := fun e => n8 (Int32.toInt_inj.mp e); have e9 : (x0 : Int32).toInt ≠ 110 := fun e => n9 (Int32.toInt_inj.mp e); have e10 : (x0 : Int32).toInt ≠ 111 := fun e => n10 (Int32.toInt_inj.mp e); have e11 : (x0 : Int32).toInt ≠ 112 := fun e => n11 (Int32.toInt_inj.mp e); have e12 : (x0 : Int32).toInt ≠ 113 := fun e => n12 (Int32.toInt_inj.mp e); have e13 : (x0 : Int32).toInt ≠ 114 := fun e => n13 (Int32.toInt_inj.mp e); have e14 : (x0 : Int32).toInt ≠ 115 := fun e => n14 (Int32.toInt_inj.mp e); have e15 : (x0 : Int32).toInt ≠ 116 := fun e => n15 (Int32.toInt_inj.mp e); omega) (by decide) ?_
                                  refine wp_bipush (v := (-9 : Int32)) dX11_kindBy_92 (by decide) ?_
                                  exact wp_iret (ty := .int) dX11_kindBy_94 rfl rfl h
abbrev C_X11_readGlove (G : Glob)  (M : Mem) (Q : Option Value → Mem → Prop) : Prop := WpM G 3 Y_X11_readGlove [.ref (ad G 71)] M Q
set_option maxRecDepth 20000 in
theorem v_X11_readGlove {G : Glob} {M : Mem} {Q : Option Value → Mem → Prop}  (h : (WpM G 1 Y_X11_here [.ref (ad G 71)] M (RI (fun r2 M1 => (WpM G 1 Y_X11_kindBy [.int r2] M1 (RI (fun r4 M3 => ((r4 = (-9 : Int32) → (∀ M6 : Mem, M6 = upI M3 71 18 (M3.1 71 17) → Q none M6)) ∧ (¬ r4 = (-9 : Int32) → (((M3.1 71 11) = 8 → (∀ M24 : Mem, M24 = upI M3 71 18 (M3.1 71 17) → Q none M24)) ∧ (¬ (M3.1 71 11) = 8 → (∀ M8 : Mem, M8 = upI M3 71 17 ((M3.1 71 17) + 1) → (vp_in (M8.1 71 11) 8 ∧ (∀ M10 : Mem, M10 = upI M8 78 ((M8.1 71 11).toNatClampNeg) r4 → (WpM G 2 Y_X11_figure [.ref (ad G 71), .int 0, .int 9] M10 (RI (fun r12 M11 => (vp_in (M10.1 71 11) 8 ∧ (∀ M14 : Mem, M14 = upI M11 79 ((M10.1 71 11).toNatClampNeg) r12 → (WpM G 2 Y_X11_figure [.ref (ad G 71), .int 0, .int 1] M14 (RI (fun r16 M15 => (vp_in (M14.1 71 11) 8 ∧ (∀ M18 : Mem, M18 = upI M15 80 ((M14.1 71 11).toNatClampNeg) r16 → (WpM G 2 Y_X11_figure [.ref (ad G 71), .int 0, .int 9] M18 (RI (fun r20 M19 => (vp_in (M18.1 71 11) 8 ∧ (∀ M22 : Mem, M22 = upI M19 81 ((M18.1 71 11).toNatClampNeg) r20 → (∀ M23 : Mem, M23 = upI M22 71 11 ((M22.1 71 11) + 1) → Q none M23)))))))))))))))))))))))))))))) : C_X11_readGlove G  M Q := by
  refine wp_enter (ls0 := [some (.ref (ad G 71)), none]) (by decide +kernel) (Nat.le_of_ble_eq_true rfl) rfl ?_
  refine wp_aload_n dX11_readGlove_0 rfl rfl ?_
  refine wp_callVI (a := 71) (d1 := 1) (As := []) (st := []) dX11_readGlove_1 rfl cm_X11_here m_5_90 (by decide) rfl (Nat.le_of_ble_eq_true rfl) rfl h ?_
  intro r2 M1 h
  refine wp_callSI (d1 := 1) (As := [.int r2]) (st := []) dX11_readGlove_4 cm_X11_kindBy m_5_102 (by decide) rfl (Nat.le_of_ble_eq_true rfl) rfl h ?_
  intro r4 M3 h
  refine wp_istore_n (ls' := [some (.ref (ad G 71)), some (.int r4)]) dX11_readGlove_7 rfl (by decide) rfl rfl ?_
  refine wp_iload_n dX11_readGlove_8 rfl rfl ?_
  refine wp_bipush (v := (-9 : Int32)) dX11_readGlove_9 (by decide) ?_
  refine wp_icmp_eq (tgt := 23) dX11_readGlove_11 (by decide) (fun c5 => ?_) (fun c5 => ?_)
  · replace h := h.1 c5
    refine wp_aload_n dX11_readGlove_23 rfl rfl ?_
    refine wp_aload_n dX11_readGlove_24 rfl rfl ?_
    refine wp_getI dX11_readGlove_25 rfl fb_11_17 m_4_172 ?_
    refine wp_putI dX11_readGlove_28 rfl fp_11_18 m_4_173 ?_
    refine wp_topM (fun M6 hM6 => ?_)
    replace h := h M6 hM6
    exact wp_vret dX11_readGlove_31 rfl h
  · replace h := h.2 c5
    refine wp_aload_n dX11_readGlove_14 rfl rfl ?_
    refine wp_getI dX11_readGlove_15 rfl fb_11_11 m_4_166 ?_
    refine wp_bipush (v := 8) dX11_readGlove_18 (by decide) ?_
    refine wp_icmp_ne (tgt := 32) dX11_readGlove_20 (by decide) (fun c7 => ?_) (fun c7 => ?_)
    · replace h := h.2 c7
      refine wp_aload_n dX11_readGlove_32 rfl rfl ?_
      refine wp_dup dX11_readGlove_33 rfl ?_
      refine wp_getI dX11_readGlove_34 rfl fb_11_17 m_4_172 ?_
      refine wp_iconst (v := 1) dX11_readGlove_37 (by decide) ?_
      refine wp_iadd dX11_readGlove_38 ?_
      refine wp_putI dX11_readGlove_39 rfl fp_11_17 m_4_172 ?_
      refine wp_topM (fun M8 hM8 => ?_)
      replace h := h M8 hM8
      refine wp_aload_n dX11_readGlove_42 rfl rfl ?_
      refine wp_getR (b := 78) dX11_readGlove_43 rfl rfl fb_11_12 m_4_167 ?_
      refine wp_aload_n dX11_readGlove_46 rfl rfl ?_
      refine wp_getI dX11_readGlove_47 rfl fb_11_11 m_4_166 ?_
      refine wp_iload_n dX11_readGlove_50 rfl rfl ?_
      obtain ⟨b9, h⟩ := h
      refine wp_iast (n := 8) dX11_readGlove_51 rfl rfl b9 ?_
      refine wp_topM (fun M10 hM10 => ?_)
      replace h := h M10 hM10
      refine wp_aload_n dX11_readGlove_52 rfl rfl ?_
      refine wp_getR (b := 79) dX11_readGlove_53 rfl rfl fb_11_13 m_4_168 ?_
      refine wp_aload_n dX11_readGlove_56 rfl rfl ?_
      refine wp_getI dX11_readGlove_57 rfl fb_11_11 m_4_166 ?_
      refine wp_aload_n dX11_readGlove_60 rfl rfl ?_
      refine wp_iconst (v := 0) dX11_readGlove_61 (by decide) ?_
      refine wp_bipush (v := 9) dX11_readGlove_62 (by decide) ?_
      refine wp_callVI (a := 71) (d1 := 2) (As := [.int 0, .int 9]) (st := [.int (M10.1 71 11), .ref (ad G 79)]) dX11_readGlove_64 rfl cm_X11_figure m_5_94 (by decide) rfl (Nat.le_of_ble_eq_true rfl) rfl h ?_
      intro r12 M11 h
      obtain ⟨b13, h⟩ := h
      refine wp_iast (n := 8) dX11_readGlove_67 rfl rfl b13 ?_
      refine wp_topM (fun M14 hM14 => ?_)
      replace h := h M14 hM14
      refine wp_aload_n dX11_readGlove_68 rfl rfl ?_
      refine wp_getR (b := 80) dX11_readGlove_69 rfl rfl fb_11_14 m_4_169 ?_
      refine wp_aload_n dX11_readGlove_72 rfl rfl ?_
      refine wp_getI dX11_readGlove_73 rfl fb_11_11 m_4_166 ?_
      refine wp_aload_n dX11_readGlove_76 rfl rfl ?_
      refine wp_iconst (v := 0) dX11_readGlove_77 (by decide) ?_
      refine wp_iconst (v := 1) dX11_readGlove_78 (by decide) ?_
      refine wp_callVI (a := 71) (d1 := 2) (As := [.int 0, .int 1]) (st := [.int (M14.1 71 11), .ref (ad G 80)]) dX11_readGlove_79 rfl cm_X11_figure m_5_94 (by decide) rfl (Nat.le_of_ble_eq_true rfl) rfl h ?_
      intro r16 M15 h
      obtain ⟨b17, h⟩ := h
      refine wp_iast (n := 8) dX11_readGlove_82 rfl rfl b17 ?_
      refine wp_topM (fun M18 hM18 => ?_)
      replace h := h M18 hM18
      refine wp_aload_n dX11_readGlove_83 rfl rfl ?_
      refine wp_getR (b := 81) dX11_readGlove_84 rfl rfl fb_11_15 m_4_170 ?_
      refine wp_aload_n dX11_readGlove_87 rfl rfl ?_
      refine wp_getI dX11_readGlove_88 rfl fb_11_11 m_4_166 ?_
      refine wp_aload_n dX11_readGlove_91 rfl rfl ?_
      refine wp_iconst (v := 0) dX11_readGlove_92 (by decide) ?_
      refine wp_bipush (v := 9) dX11_readGlove_93 (by decide) ?_
      refine wp_callVI (a := 71) (d1 := 2) (As := [.int 0, .int 9]) (st := [.int (M18.1 71 11), .ref (ad G 81)]) dX11_readGlove_95 rfl cm_X11_figure m_5_94 (by decide) rfl (Nat.le_of_ble_eq_true rfl) rfl h ?_
      intro r20 M19 h
      obtain ⟨b21, h⟩ := h
      refine wp_iast (n := 8) dX11_readGlove_98 rfl rfl b21 ?_
      refine wp_topM (fun M22 hM22 => ?_)
      replace h := h M22 hM22
      refine wp_aload_n dX11_readGlove_99 rfl rfl ?_
      refine wp_dup dX11_readGlove_100 rfl ?_
      refine wp_getI dX11_readGlove_101 rfl fb_11_11 m_4_166 ?_
      refine wp_iconst (v := 1) dX11_readGlove_104 (by decide) ?_
      refine wp_iadd dX11_readGlove_105 ?_
      refine wp_putI dX11_readGlove_106 rfl fp_11_11 m_4_166 ?_
      refine wp_topM (fun M23 hM23 => ?_)
      replace h := h M23 hM23
      exact wp_vret dX11_readGlove_109 rfl h
    · replace h := h.1 c7
      refine wp_aload_n dX11_readGlove_23 rfl rfl ?_
      refine wp_aload_n dX11_readGlove_24 rfl rfl ?_
      refine wp_getI dX11_readGlove_25 rfl fb_11_17 m_4_172 ?_
      refine wp_putI dX11_readGlove_28 rfl fp_11_18 m_4_173 ?_
      refine wp_topM (fun M24 hM24 => ?_)
      replace h := h M24 hM24
      exact wp_vret dX11_readGlove_31 rfl h
abbrev P_X11_read_81 (G : Glob) (x1 : Int32) (x2 : Int32) (M : Mem) (Q : Option Value → Mem → Prop) : Prop := Wp G 4 Y_X11_read 81 [some (.ref (ad G 71)), some (.int x1), some (.int x2)] [] M Q
set_option maxRecDepth 20000 in
theorem v_X11_read_81 {G : Glob} {x1 : Int32} {x2 : Int32} {M : Mem} {Q : Option Value → Mem → Prop}  (h : ((x2 = 0 → Q none M) ∧ (¬ x2 = 0 → (WpM G 2 Y_X11_skip [.ref (ad G 71)] M (RV (fun M2 => (vp_in x1 4 ∧ (((M2.1 71 17) < (M2.1 76 x1.toNatClampNeg) → (WpM G 3 Y_X11_readGlove [.ref (ad G 71)] M2 (RV (fun M6 => (((M6.1 71 18) = (-9 : Int32) → P_X11_read_81 G x1 1 M6 Q) ∧ (¬ (M6.1 71 18) = (-9 : Int32) → P_X11_read_81 G x1 0 M6 Q)))))) ∧ (¬ (M2.1 71 17) < (M2.1 76 x1.toNatClampNeg) → (((M2.1 71 11) = 0 → (WpM G 3 Y_X11_readGlove [.ref (ad G 71)] M2 (RV (fun M11 => (((M11.1 71 18) = (-9 : Int32) → P_X11_read_81 G x1 1 M11 Q) ∧ (¬ (M11.1 71 18) = (-9 : Int32) → P_X11_read_81 G x1 0 M11 Q)))))) ∧ (¬ (M2.1 71 11) = 0 → P_X11_read_81 G x1 0 M2 Q))))))))))) : P_X11_read_81 G x1 x2 M Q := by
  refine wp_iload_n dX11_read_81 rfl rfl ?_
  refine wp_if_eq (tgt := 141) dX11_read_82 (by decide) (fun c1 => ?_) (fun c1 => ?_)
  · replace h := h.1 c1
    exact wp_vret dX11_read_141 rfl h
  · replace h := h.2 c1
    refine wp_aload_n dX11_read_85 rfl rfl ?_
    refine wp_callVV (a := 71) (d1 := 2) (As := []) (st := []) dX11_read_86 rfl cm_X11_skip m_5_86 (by decide) rfl (Nat.le_of_ble_eq_true rfl) rfl h ?_
    intro M2 h
    refine wp_aload_n dX11_read_89 rfl rfl ?_
    refine wp_getI dX11_read_90 rfl fb_11_17 m_4_172 ?_
    refine wp_aload_n dX11_read_93 rfl rfl ?_
    refine wp_getR (b := 76) dX11_read_94 rfl rfl fb_11_8 m_4_163 ?_
    refine wp_iload_n dX11_read_97 rfl rfl ?_
    obtain ⟨b3, h⟩ := h
    refine wp_iald (n := 4) dX11_read_98 rfl rfl b3 ?_
    refine wp_icmp_lt (tgt := 109) dX11_read_99 (by decide) (fun c4 => ?_) (fun c4 => ?_)
    · replace h := h.1 c4
      refine wp_iconst (v := 1) dX11_read_109 (by decide) ?_
      refine wp_goto (tgt := 114) dX11_read_110 (by decide) ?_
      refine wp_istore_n (ls' := [some (.ref (ad G 71)), some (.int x1), some (.int 1)]) dX11_read_114 rfl (by decide) rfl rfl ?_
      refine wp_iload_n dX11_read_115 rfl rfl ?_
      refine wp_if_eq (tgt := 81) dX11_read_116 (by decide) (fun c5 => ?_) (fun c5 => ?_)
      · exact absurd c5 (by decide)
      · refine wp_aload_n dX11_read_119 rfl rfl ?_
        refine wp_callVV (a := 71) (d1 := 3) (As := []) (st := []) dX11_read_120 rfl cm_X11_readGlove m_5_98 (by decide) rfl (Nat.le_of_ble_eq_true rfl) rfl h ?_
        intro M6 h
        refine wp_aload_n dX11_read_123 rfl rfl ?_
        refine wp_getI dX11_read_124 rfl fb_11_18 m_4_173 ?_
        refine wp_bipush (v := (-9 : Int32)) dX11_read_127 (by decide) ?_
        refine wp_icmp_ne (tgt := 136) dX11_read_129 (by decide) (fun c7 => ?_) (fun c7 => ?_)
        · replace h := h.2 c7
          refine wp_iconst (v := 0) dX11_read_136 (by decide) ?_
          refine wp_istore_n (ls' := [some (.ref (ad G 71)), some (.int x1), some (.int 0)]) dX11_read_137 rfl (by decide) rfl rfl ?_
          refine wp_goto (tgt := 81) dX11_read_138 (by decide) ?_
          exact h
        · replace h := h.1 c7
          refine wp_iconst (v := 1) dX11_read_132 (by decide) ?_
          refine wp_goto (tgt := 137) dX11_read_133 (by decide) ?_
          refine wp_istore_n (ls' := [some (.ref (ad G 71)), some (.int x1), some (.int 1)]) dX11_read_137 rfl (by decide) rfl rfl ?_
          refine wp_goto (tgt := 81) dX11_read_138 (by decide) ?_
          exact h
    · replace h := h.2 c4
      refine wp_aload_n dX11_read_102 rfl rfl ?_
      refine wp_getI dX11_read_103 rfl fb_11_11 m_4_166 ?_
      refine wp_if_ne (tgt := 113) dX11_read_106 (by decide) (fun c8 => ?_) (fun c8 => ?_)
      · replace h := h.2 c8
        refine wp_iconst (v := 0) dX11_read_113 (by decide) ?_
        refine wp_istore_n (ls' := [some (.ref (ad G 71)), some (.int x1), some (.int 0)]) dX11_read_114 rfl (by decide) rfl rfl ?_
        refine wp_iload_n dX11_read_115 rfl rfl ?_
        refine wp_if_eq (tgt := 81) dX11_read_116 (by decide) (fun c9 => ?_) (fun c9 => ?_)
        · exact h
        · exact absurd c9 (by decide)
      · replace h := h.1 c8
        refine wp_iconst (v := 1) dX11_read_109 (by decide) ?_
        refine wp_goto (tgt := 114) dX11_read_110 (by decide) ?_
        refine wp_istore_n (ls' := [some (.ref (ad G 71)), some (.int x1), some (.int 1)]) dX11_read_114 rfl (by decide) rfl rfl ?_
        refine wp_iload_n dX11_read_115 rfl rfl ?_
        refine wp_if_eq (tgt := 81) dX11_read_116 (by decide) (fun c10 => ?_) (fun c10 => ?_)
        · exact absurd c10 (by decide)
        · refine wp_aload_n dX11_read_119 rfl rfl ?_
          refine wp_callVV (a := 71) (d1 := 3) (As := []) (st := []) dX11_read_120 rfl cm_X11_readGlove m_5_98 (by decide) rfl (Nat.le_of_ble_eq_true rfl) rfl h ?_
          intro M11 h
          refine wp_aload_n dX11_read_123 rfl rfl ?_
          refine wp_getI dX11_read_124 rfl fb_11_18 m_4_173 ?_
          refine wp_bipush (v := (-9 : Int32)) dX11_read_127 (by decide) ?_
          refine wp_icmp_ne (tgt := 136) dX11_read_129 (by decide) (fun c12 => ?_) (fun c12 => ?_)
          · replace h := h.2 c12
            refine wp_iconst (v := 0) dX11_read_136 (by decide) ?_
            refine wp_istore_n (ls' := [some (.ref (ad G 71)), some (.int x1), some (.int 0)]) dX11_read_137 rfl (by decide) rfl rfl ?_
            refine wp_goto (tgt := 81) dX11_read_138 (by decide) ?_
            exact h
          · replace h := h.1 c12
            refine wp_iconst (v := 1) dX11_read_132 (by decide) ?_
            refine wp_goto (tgt := 137) dX11_read_133 (by decide) ?_
            refine wp_istore_n (ls' := [some (.ref (ad G 71)), some (.int x1), some (.int 1)]) dX11_read_137 rfl (by decide) rfl rfl ?_
            refine wp_goto (tgt := 81) dX11_read_138 (by decide) ?_
            exact h
abbrev C_X11_read (G : Glob) (x1 : Int32) (M : Mem) (Q : Option Value → Mem → Prop) : Prop := WpM G 4 Y_X11_read [.ref (ad G 71), .int x1] M Q
set_option maxRecDepth 20000 in
theorem v_X11_read {G : Glob} {x1 : Int32} {M : Mem} {Q : Option Value → Mem → Prop}  (h : (∀ M1 : Mem, M1 = upI M 71 16 x1 → (∀ M2 : Mem, M2 = upI M1 71 17 0 → (∀ M3 : Mem, M3 = upI M2 71 18 (-9 : Int32) → (∀ M4 : Mem, M4 = upI M3 71 11 0 → (WpM G 2 Y_X11_skip [.ref (ad G 71)] M4 (RV (fun M5 => (WpM G 1 Y_X11_here [.ref (ad G 71)] M5 (RI (fun r7 M6 => ((r7 = 100 → (∀ M14 : Mem, M14 = upI M6 71 17 ((M6.1 71 17) + 1) → (WpM G 2 Y_X11_figure [.ref (ad G 71), .int 1, .int 8] M14 (RI (fun r16 M15 => (∀ M17 : Mem, M17 = upI M15 71 10 r16 → (((M17.1 71 18) = (-9 : Int32) → P_X11_read_81 G x1 1 M17 Q) ∧ (¬ (M17.1 71 18) = (-9 : Int32) → P_X11_read_81 G x1 0 M17 Q)))))))) ∧ (¬ r7 = 100 → (∀ M9 : Mem, M9 = upI M6 71 18 (M6.1 71 17) → (WpM G 2 Y_X11_figure [.ref (ad G 71), .int 1, .int 8] M9 (RI (fun r11 M10 => (∀ M12 : Mem, M12 = upI M10 71 10 r11 → (((M12.1 71 18) = (-9 : Int32) → P_X11_read_81 G x1 1 M12 Q) ∧ (¬ (M12.1 71 18) = (-9 : Int32) → P_X11_read_81 G x1 0 M12 Q)))))))))))))))))))) : C_X11_read G x1 M Q := by
  refine wp_enter (ls0 := [some (.ref (ad G 71)), some (.int x1), none]) (by decide +kernel) (Nat.le_of_ble_eq_true rfl) rfl ?_
  refine wp_aload_n dX11_read_0 rfl rfl ?_
  refine wp_iload_n dX11_read_1 rfl rfl ?_
  refine wp_putI dX11_read_2 rfl fp_11_16 m_4_171 ?_
  refine wp_topM (fun M1 hM1 => ?_)
  replace h := h M1 hM1
  refine wp_aload_n dX11_read_5 rfl rfl ?_
  refine wp_iconst (v := 0) dX11_read_6 (by decide) ?_
  refine wp_putI dX11_read_7 rfl fp_11_17 m_4_172 ?_
  refine wp_topM (fun M2 hM2 => ?_)
  replace h := h M2 hM2
  refine wp_aload_n dX11_read_10 rfl rfl ?_
  refine wp_bipush (v := (-9 : Int32)) dX11_read_11 (by decide) ?_
  refine wp_putI dX11_read_13 rfl fp_11_18 m_4_173 ?_
  refine wp_topM (fun M3 hM3 => ?_)
  replace h := h M3 hM3
  refine wp_aload_n dX11_read_16 rfl rfl ?_
  refine wp_iconst (v := 0) dX11_read_17 (by decide) ?_
  refine wp_putI dX11_read_18 rfl fp_11_11 m_4_166 ?_
  refine wp_topM (fun M4 hM4 => ?_)
  replace h := h M4 hM4
  refine wp_aload_n dX11_read_21 rfl rfl ?_
  refine wp_callVV (a := 71) (d1 := 2) (As := []) (st := []) dX11_read_22 rfl cm_X11_skip m_5_86 (by decide) rfl (Nat.le_of_ble_eq_true rfl) rfl h ?_
  intro M5 h
  refine wp_aload_n dX11_read_25 rfl rfl ?_
  refine wp_callVI (a := 71) (d1 := 1) (As := []) (st := []) dX11_read_26 rfl cm_X11_here m_5_90 (by decide) rfl (Nat.le_of_ble_eq_true rfl) rfl h ?_
  intro r7 M6 h
  refine wp_bipush (v := 100) dX11_read_29 (by decide) ?_
  refine wp_icmp_ne (tgt := 47) dX11_read_31 (by decide) (fun c8 => ?_) (fun c8 => ?_)
  · replace h := h.2 c8
    refine wp_aload_n dX11_read_47 rfl rfl ?_
    refine wp_aload_n dX11_read_48 rfl rfl ?_
    refine wp_getI dX11_read_49 rfl fb_11_17 m_4_172 ?_
    refine wp_putI dX11_read_52 rfl fp_11_18 m_4_173 ?_
    refine wp_topM (fun M9 hM9 => ?_)
    replace h := h M9 hM9
    refine wp_aload_n dX11_read_55 rfl rfl ?_
    refine wp_aload_n dX11_read_56 rfl rfl ?_
    refine wp_iconst (v := 1) dX11_read_57 (by decide) ?_
    refine wp_bipush (v := 8) dX11_read_58 (by decide) ?_
    refine wp_callVI (a := 71) (d1 := 2) (As := [.int 1, .int 8]) (st := [.ref (ad G 71)]) dX11_read_60 rfl cm_X11_figure m_5_94 (by decide) rfl (Nat.le_of_ble_eq_true rfl) rfl h ?_
    intro r11 M10 h
    refine wp_putI dX11_read_63 rfl fp_11_10 m_4_165 ?_
    refine wp_topM (fun M12 hM12 => ?_)
    replace h := h M12 hM12
    refine wp_aload_n dX11_read_66 rfl rfl ?_
    refine wp_getI dX11_read_67 rfl fb_11_18 m_4_173 ?_
    refine wp_bipush (v := (-9 : Int32)) dX11_read_70 (by decide) ?_
    refine wp_icmp_ne (tgt := 79) dX11_read_72 (by decide) (fun c13 => ?_) (fun c13 => ?_)
    · replace h := h.2 c13
      refine wp_iconst (v := 0) dX11_read_79 (by decide) ?_
      refine wp_istore_n (ls' := [some (.ref (ad G 71)), some (.int x1), some (.int 0)]) dX11_read_80 rfl (by decide) rfl rfl ?_
      exact h
    · replace h := h.1 c13
      refine wp_iconst (v := 1) dX11_read_75 (by decide) ?_
      refine wp_goto (tgt := 80) dX11_read_76 (by decide) ?_
      refine wp_istore_n (ls' := [some (.ref (ad G 71)), some (.int x1), some (.int 1)]) dX11_read_80 rfl (by decide) rfl rfl ?_
      exact h
  · replace h := h.1 c8
    refine wp_aload_n dX11_read_34 rfl rfl ?_
    refine wp_dup dX11_read_35 rfl ?_
    refine wp_getI dX11_read_36 rfl fb_11_17 m_4_172 ?_
    refine wp_iconst (v := 1) dX11_read_39 (by decide) ?_
    refine wp_iadd dX11_read_40 ?_
    refine wp_putI dX11_read_41 rfl fp_11_17 m_4_172 ?_
    refine wp_topM (fun M14 hM14 => ?_)
    replace h := h M14 hM14
    refine wp_goto (tgt := 55) dX11_read_44 (by decide) ?_
    refine wp_aload_n dX11_read_55 rfl rfl ?_
    refine wp_aload_n dX11_read_56 rfl rfl ?_
    refine wp_iconst (v := 1) dX11_read_57 (by decide) ?_
    refine wp_bipush (v := 8) dX11_read_58 (by decide) ?_
    refine wp_callVI (a := 71) (d1 := 2) (As := [.int 1, .int 8]) (st := [.ref (ad G 71)]) dX11_read_60 rfl cm_X11_figure m_5_94 (by decide) rfl (Nat.le_of_ble_eq_true rfl) rfl h ?_
    intro r16 M15 h
    refine wp_putI dX11_read_63 rfl fp_11_10 m_4_165 ?_
    refine wp_topM (fun M17 hM17 => ?_)
    replace h := h M17 hM17
    refine wp_aload_n dX11_read_66 rfl rfl ?_
    refine wp_getI dX11_read_67 rfl fb_11_18 m_4_173 ?_
    refine wp_bipush (v := (-9 : Int32)) dX11_read_70 (by decide) ?_
    refine wp_icmp_ne (tgt := 79) dX11_read_72 (by decide) (fun c18 => ?_) (fun c18 => ?_)
    · replace h := h.2 c18
      refine wp_iconst (v := 0) dX11_read_79 (by decide) ?_
      refine wp_istore_n (ls' := [some (.ref (ad G 71)), some (.int x1), some (.int 0)]) dX11_read_80 rfl (by decide) rfl rfl ?_
      exact h
    · replace h := h.1 c18
      refine wp_iconst (v := 1) dX11_read_75 (by decide) ?_
      refine wp_goto (tgt := 80) dX11_read_76 (by decide) ?_
      refine wp_istore_n (ls' := [some (.ref (ad G 71)), some (.int x1), some (.int 1)]) dX11_read_80 rfl (by decide) rfl rfl ?_
      exact h
abbrev C_X11_fault (G : Glob) (x1 : Int32) (M : Mem) (Q : Option Value → Mem → Prop) : Prop := WpM G 5 Y_X11_fault [.ref (ad G 71), .int x1] M Q
set_option maxRecDepth 20000 in
theorem v_X11_fault {G : Glob} {x1 : Int32} {M : Mem} {Q : Option Value → Mem → Prop}  (h : (WpM G 2 Y_X11_isText [.int x1] M (RI (fun r2 M1 => ((r2 = 0 → Q (some (.int (-1 : Int32))) M1) ∧ (¬ r2 = 0 → (vp_in x1 4 ∧ (((M1.1 76 x1.toNatClampNeg) < 0 → (WpM G 1 Y_X11_refuse [.ref (ad G 71), .int 1] M1 (RI (fun r8 M7 => Q (some (.int r8)) M7)))) ∧ (¬ (M1.1 76 x1.toNatClampNeg) < 0 → (WpM G 4 Y_X11_read [.ref (ad G 71), .int x1] M1 (RV (fun M6 => Q (some (.int (M6.1 71 18))) M6)))))))))))) : C_X11_fault G x1 M Q := by
  refine wp_enter (ls0 := [some (.ref (ad G 71)), some (.int x1)]) (by decide +kernel) (Nat.le_of_ble_eq_true rfl) rfl ?_
  refine wp_iload_n dX11_fault_0 rfl rfl ?_
  refine wp_callSI (d1 := 2) (As := [.int x1]) (st := []) dX11_fault_1 cm_X11_isText m_5_71 (by decide) rfl (Nat.le_of_ble_eq_true rfl) rfl h ?_
  intro r2 M1 h
  refine wp_if_ne (tgt := 9) dX11_fault_4 (by decide) (fun c3 => ?_) (fun c3 => ?_)
  · replace h := h.2 c3
    refine wp_aload_n dX11_fault_9 rfl rfl ?_
    refine wp_getR (b := 76) dX11_fault_10 rfl rfl fb_11_8 m_4_163 ?_
    refine wp_iload_n dX11_fault_13 rfl rfl ?_
    obtain ⟨b4, h⟩ := h
    refine wp_iald (n := 4) dX11_fault_14 rfl rfl b4 ?_
    refine wp_if_ge (tgt := 24) dX11_fault_15 (by decide) (fun c5 => ?_) (fun c5 => ?_)
    · replace h := h.2 c5
      refine wp_aload_n dX11_fault_24 rfl rfl ?_
      refine wp_iload_n dX11_fault_25 rfl rfl ?_
      refine wp_callVV (a := 71) (d1 := 4) (As := [.int x1]) (st := []) dX11_fault_26 rfl cm_X11_read m_5_82 (by decide) rfl (Nat.le_of_ble_eq_true rfl) rfl h ?_
      intro M6 h
      refine wp_aload_n dX11_fault_29 rfl rfl ?_
      refine wp_getI dX11_fault_30 rfl fb_11_18 m_4_173 ?_
      exact wp_iret (ty := .int) dX11_fault_33 rfl rfl h
    · replace h := h.1 c5
      refine wp_aload_n dX11_fault_18 rfl rfl ?_
      refine wp_iconst (v := 1) dX11_fault_19 (by decide) ?_
      refine wp_callVI (a := 71) (d1 := 1) (As := [.int 1]) (st := []) dX11_fault_20 rfl cm_X11_refuse m_5_35 (by decide) rfl (Nat.le_of_ble_eq_true rfl) rfl h ?_
      intro r8 M7 h
      exact wp_iret (ty := .int) dX11_fault_23 rfl rfl h
  · replace h := h.1 c3
    refine wp_iconst (v := (-1 : Int32)) dX11_fault_7 (by decide) ?_
    exact wp_iret (ty := .int) dX11_fault_8 rfl rfl h
abbrev P_X11_drawer_59 (G : Glob) (x2 : Int32) (M : Mem) (Q : Option Value → Mem → Prop) : Prop := Wp G 5 Y_X11_drawer 59 [some (.ref (ad G 71)), none, some (.int x2)] [] M Q
abbrev P_X11_drawer_130 (G : Glob) (x2 : Int32) (M : Mem) (Q : Option Value → Mem → Prop) : Prop := Wp G 5 Y_X11_drawer 130 [some (.ref (ad G 71)), none, some (.int x2)] [] M Q
set_option maxRecDepth 20000 in
theorem v_X11_drawer_59 {G : Glob} {x2 : Int32} {M : Mem} {Q : Option Value → Mem → Prop}  (h : ((x2 < 8 → (vp_in x2 8 ∧ (vp_in x2 8 ∧ (∀ M6 : Mem, M6 = upI M 82 (x2.toNatClampNeg) (M.1 78 x2.toNatClampNeg) → (vp_in x2 8 ∧ (vp_in x2 8 ∧ (∀ M9 : Mem, M9 = upI M6 83 (x2.toNatClampNeg) (M6.1 79 x2.toNatClampNeg) → (vp_in x2 8 ∧ (vp_in x2 8 ∧ (∀ M12 : Mem, M12 = upI M9 84 (x2.toNatClampNeg) (M9.1 80 x2.toNatClampNeg) → (vp_in x2 8 ∧ (vp_in x2 8 ∧ (∀ M15 : Mem, M15 = upI M12 85 (x2.toNatClampNeg) (M12.1 81 x2.toNatClampNeg) → P_X11_drawer_59 G (x2 + 1) M15 Q))))))))))))) ∧ (¬ x2 < 8 → (∀ M2 : Mem, M2 = upI M 71 27 0 → (WpM G 2 Y_X11_goThrough [.ref (ad G 71)] M2 (RV (fun M3 => P_X11_drawer_130 G 0 M3 Q))))))) : P_X11_drawer_59 G x2 M Q := by
  refine wp_iload_n dX11_drawer_59 rfl rfl ?_
  refine wp_bipush (v := 8) dX11_drawer_60 (by decide) ?_
  refine wp_icmp_ge (tgt := 119) dX11_drawer_62 (by decide) (fun c1 => ?_) (fun c1 => ?_)
  · replace h := h.2 c1
    refine wp_aload_n dX11_drawer_119 rfl rfl ?_
    refine wp_iconst (v := 0) dX11_drawer_120 (by decide) ?_
    refine wp_putI dX11_drawer_121 rfl fp_11_27 m_4_182 ?_
    refine wp_topM (fun M2 hM2 => ?_)
    replace h := h M2 hM2
    refine wp_aload_n dX11_drawer_124 rfl rfl ?_
    refine wp_callVV (a := 71) (d1 := 2) (As := []) (st := []) dX11_drawer_125 rfl cm_X11_goThrough m_5_109 (by decide) rfl (Nat.le_of_ble_eq_true rfl) rfl h ?_
    intro M3 h
    refine wp_iconst (v := 0) dX11_drawer_128 (by decide) ?_
    refine wp_istore_n (ls' := [some (.ref (ad G 71)), none, some (.int 0)]) dX11_drawer_129 rfl (by decide) rfl rfl ?_
    exact h
  · replace h := h.1 c1
    refine wp_aload_n dX11_drawer_65 rfl rfl ?_
    refine wp_getR (b := 82) dX11_drawer_66 rfl rfl fb_11_21 m_4_176 ?_
    refine wp_iload_n dX11_drawer_69 rfl rfl ?_
    refine wp_aload_n dX11_drawer_70 rfl rfl ?_
    refine wp_getR (b := 78) dX11_drawer_71 rfl rfl fb_11_12 m_4_167 ?_
    refine wp_iload_n dX11_drawer_74 rfl rfl ?_
    obtain ⟨b4, h⟩ := h
    refine wp_iald (n := 8) dX11_drawer_75 rfl rfl b4 ?_
    obtain ⟨b5, h⟩ := h
    refine wp_iast (n := 8) dX11_drawer_76 rfl rfl b5 ?_
    refine wp_topM (fun M6 hM6 => ?_)
    replace h := h M6 hM6
    refine wp_aload_n dX11_drawer_77 rfl rfl ?_
    refine wp_getR (b := 83) dX11_drawer_78 rfl rfl fb_11_22 m_4_177 ?_
    refine wp_iload_n dX11_drawer_81 rfl rfl ?_
    refine wp_aload_n dX11_drawer_82 rfl rfl ?_
    refine wp_getR (b := 79) dX11_drawer_83 rfl rfl fb_11_13 m_4_168 ?_
    refine wp_iload_n dX11_drawer_86 rfl rfl ?_
    obtain ⟨b7, h⟩ := h
    refine wp_iald (n := 8) dX11_drawer_87 rfl rfl b7 ?_
    obtain ⟨b8, h⟩ := h
    refine wp_iast (n := 8) dX11_drawer_88 rfl rfl b8 ?_
    refine wp_topM (fun M9 hM9 => ?_)
    replace h := h M9 hM9
    refine wp_aload_n dX11_drawer_89 rfl rfl ?_
    refine wp_getR (b := 84) dX11_drawer_90 rfl rfl fb_11_23 m_4_178 ?_
    refine wp_iload_n dX11_drawer_93 rfl rfl ?_
    refine wp_aload_n dX11_drawer_94 rfl rfl ?_
    refine wp_getR (b := 80) dX11_drawer_95 rfl rfl fb_11_14 m_4_169 ?_
    refine wp_iload_n dX11_drawer_98 rfl rfl ?_
    obtain ⟨b10, h⟩ := h
    refine wp_iald (n := 8) dX11_drawer_99 rfl rfl b10 ?_
    obtain ⟨b11, h⟩ := h
    refine wp_iast (n := 8) dX11_drawer_100 rfl rfl b11 ?_
    refine wp_topM (fun M12 hM12 => ?_)
    replace h := h M12 hM12
    refine wp_aload_n dX11_drawer_101 rfl rfl ?_
    refine wp_getR (b := 85) dX11_drawer_102 rfl rfl fb_11_24 m_4_179 ?_
    refine wp_iload_n dX11_drawer_105 rfl rfl ?_
    refine wp_aload_n dX11_drawer_106 rfl rfl ?_
    refine wp_getR (b := 81) dX11_drawer_107 rfl rfl fb_11_15 m_4_170 ?_
    refine wp_iload_n dX11_drawer_110 rfl rfl ?_
    obtain ⟨b13, h⟩ := h
    refine wp_iald (n := 8) dX11_drawer_111 rfl rfl b13 ?_
    obtain ⟨b14, h⟩ := h
    refine wp_iast (n := 8) dX11_drawer_112 rfl rfl b14 ?_
    refine wp_topM (fun M15 hM15 => ?_)
    replace h := h M15 hM15
    refine wp_iinc (v := (x2 + 1)) (ls' := [some (.ref (ad G 71)), none, some (.int (x2 + 1))]) dX11_drawer_113 rfl rfl (by decide) rfl rfl ?_
    refine wp_goto (tgt := 59) dX11_drawer_116 (by decide) ?_
    exact h
set_option maxRecDepth 20000 in
theorem v_X11_drawer_130 {G : Glob} {x2 : Int32} {M : Mem} {Q : Option Value → Mem → Prop}  (h : ((x2 < 3 → (vp_in x2 3 ∧ (∀ M3 : Mem, M3 = upI M 89 (x2.toNatClampNeg) (-1 : Int32) → P_X11_drawer_130 G (x2 + 1) M3 Q))) ∧ (¬ x2 < 3 → Q (some (.int (M.1 71 20))) M))) : P_X11_drawer_130 G x2 M Q := by
  refine wp_iload_n dX11_drawer_130 rfl rfl ?_
  refine wp_iconst (v := 3) dX11_drawer_131 (by decide) ?_
  refine wp_icmp_ge (tgt := 148) dX11_drawer_132 (by decide) (fun c1 => ?_) (fun c1 => ?_)
  · replace h := h.2 c1
    refine wp_aload_n dX11_drawer_148 rfl rfl ?_
    refine wp_getI dX11_drawer_149 rfl fb_11_20 m_4_175 ?_
    exact wp_iret (ty := .int) dX11_drawer_152 rfl rfl h
  · replace h := h.1 c1
    refine wp_aload_n dX11_drawer_135 rfl rfl ?_
    refine wp_getR (b := 89) dX11_drawer_136 rfl rfl fb_11_29 m_4_184 ?_
    refine wp_iload_n dX11_drawer_139 rfl rfl ?_
    refine wp_iconst (v := (-1 : Int32)) dX11_drawer_140 (by decide) ?_
    obtain ⟨b2, h⟩ := h
    refine wp_iast (n := 3) dX11_drawer_141 rfl rfl b2 ?_
    refine wp_topM (fun M3 hM3 => ?_)
    replace h := h M3 hM3
    refine wp_iinc (v := (x2 + 1)) (ls' := [some (.ref (ad G 71)), none, some (.int (x2 + 1))]) dX11_drawer_142 rfl rfl (by decide) rfl rfl ?_
    refine wp_goto (tgt := 130) dX11_drawer_145 (by decide) ?_
    exact h
abbrev C_X11_drawer (G : Glob) (x1 : Int32) (M : Mem) (Q : Option Value → Mem → Prop) : Prop := WpM G 5 Y_X11_drawer [.ref (ad G 71), .int x1] M Q
set_option maxRecDepth 20000 in
theorem v_X11_drawer {G : Glob} {x1 : Int32} {M : Mem} {Q : Option Value → Mem → Prop}  (h : (WpM G 2 Y_X11_isText [.int x1] M (RI (fun r2 M1 => ((r2 = 0 → Q (some (.int (-1 : Int32))) M1) ∧ (¬ r2 = 0 → (vp_in x1 4 ∧ (((M1.1 76 x1.toNatClampNeg) < 0 → (WpM G 1 Y_X11_refuse [.ref (ad G 71), .int 1] M1 (RI (fun r11 M10 => Q (some (.int r11)) M10)))) ∧ (¬ (M1.1 76 x1.toNatClampNeg) < 0 → (WpM G 4 Y_X11_read [.ref (ad G 71), .int x1] M1 (RV (fun M6 => (((M6.1 71 18) = (-9 : Int32) → (∀ M8 : Mem, M8 = upI M6 71 19 (M6.1 71 10) → (∀ M9 : Mem, M9 = upI M8 71 20 (M8.1 71 11) → P_X11_drawer_59 G 0 M9 Q))) ∧ (¬ (M6.1 71 18) = (-9 : Int32) → Q (some (.int (-4 : Int32))) M6)))))))))))))) : C_X11_drawer G x1 M Q := by
  refine wp_enter (ls0 := [some (.ref (ad G 71)), some (.int x1), none]) (by decide +kernel) (Nat.le_of_ble_eq_true rfl) rfl ?_
  refine wp_iload_n dX11_drawer_0 rfl rfl ?_
  refine wp_callSI (d1 := 2) (As := [.int x1]) (st := []) dX11_drawer_1 cm_X11_isText m_5_71 (by decide) rfl (Nat.le_of_ble_eq_true rfl) rfl h ?_
  intro r2 M1 h
  refine wp_if_ne (tgt := 9) dX11_drawer_4 (by decide) (fun c3 => ?_) (fun c3 => ?_)
  · replace h := h.2 c3
    refine wp_aload_n dX11_drawer_9 rfl rfl ?_
    refine wp_getR (b := 76) dX11_drawer_10 rfl rfl fb_11_8 m_4_163 ?_
    refine wp_iload_n dX11_drawer_13 rfl rfl ?_
    obtain ⟨b4, h⟩ := h
    refine wp_iald (n := 4) dX11_drawer_14 rfl rfl b4 ?_
    refine wp_if_ge (tgt := 24) dX11_drawer_15 (by decide) (fun c5 => ?_) (fun c5 => ?_)
    · replace h := h.2 c5
      refine wp_aload_n dX11_drawer_24 rfl rfl ?_
      refine wp_iload_n dX11_drawer_25 rfl rfl ?_
      refine wp_callVV (a := 71) (d1 := 4) (As := [.int x1]) (st := []) dX11_drawer_26 rfl cm_X11_read m_5_82 (by decide) rfl (Nat.le_of_ble_eq_true rfl) rfl h ?_
      intro M6 h
      refine wp_aload_n dX11_drawer_29 rfl rfl ?_
      refine wp_getI dX11_drawer_30 rfl fb_11_18 m_4_173 ?_
      refine wp_bipush (v := (-9 : Int32)) dX11_drawer_33 (by decide) ?_
      refine wp_icmp_eq (tgt := 41) dX11_drawer_35 (by decide) (fun c7 => ?_) (fun c7 => ?_)
      · replace h := h.1 c7
        refine wp_aload_n dX11_drawer_41 rfl rfl ?_
        refine wp_aload_n dX11_drawer_42 rfl rfl ?_
        refine wp_getI dX11_drawer_43 rfl fb_11_10 m_4_165 ?_
        refine wp_putI dX11_drawer_46 rfl fp_11_19 m_4_174 ?_
        refine wp_topM (fun M8 hM8 => ?_)
        replace h := h M8 hM8
        refine wp_aload_n dX11_drawer_49 rfl rfl ?_
        refine wp_aload_n dX11_drawer_50 rfl rfl ?_
        refine wp_getI dX11_drawer_51 rfl fb_11_11 m_4_166 ?_
        refine wp_putI dX11_drawer_54 rfl fp_11_20 m_4_175 ?_
        refine wp_topM (fun M9 hM9 => ?_)
        replace h := h M9 hM9
        refine wp_iconst (v := 0) dX11_drawer_57 (by decide) ?_
        refine wp_istore_n (ls' := [some (.ref (ad G 71)), some (.int x1), some (.int 0)]) dX11_drawer_58 rfl (by decide) rfl rfl ?_
        exact wp_mask [true, false, true] rfl h
      · replace h := h.2 c7
        refine wp_bipush (v := (-4 : Int32)) dX11_drawer_38 (by decide) ?_
        exact wp_iret (ty := .int) dX11_drawer_40 rfl rfl h
    · replace h := h.1 c5
      refine wp_aload_n dX11_drawer_18 rfl rfl ?_
      refine wp_iconst (v := 1) dX11_drawer_19 (by decide) ?_
      refine wp_callVI (a := 71) (d1 := 1) (As := [.int 1]) (st := []) dX11_drawer_20 rfl cm_X11_refuse m_5_35 (by decide) rfl (Nat.le_of_ble_eq_true rfl) rfl h ?_
      intro r11 M10 h
      exact wp_iret (ty := .int) dX11_drawer_23 rfl rfl h
  · replace h := h.1 c3
    refine wp_iconst (v := (-1 : Int32)) dX11_drawer_7 (by decide) ?_
    exact wp_iret (ty := .int) dX11_drawer_8 rfl rfl h
abbrev C_X11_isGlove (G : Glob) (x1 : Int32) (M : Mem) (Q : Option Value → Mem → Prop) : Prop := WpM G 2 Y_X11_isGlove [.ref (ad G 71), .int x1] M Q
set_option maxRecDepth 20000 in
theorem v_X11_isGlove {G : Glob} {x1 : Int32} {M : Mem} {Q : Option Value → Mem → Prop}  (h : (WpM G 1 Y_X11_in [.int x1, .int 0, .int ((M.1 71 20) - 1)] M (RI (fun r2 M1 => (narrow .boolean (.int r2) = .int r2 ∧ Q (some (.int r2)) M1))))) : C_X11_isGlove G x1 M Q := by
  refine wp_enter (ls0 := [some (.ref (ad G 71)), some (.int x1)]) (by decide +kernel) (Nat.le_of_ble_eq_true rfl) rfl ?_
  refine wp_iload_n dX11_isGlove_0 rfl rfl ?_
  refine wp_iconst (v := 0) dX11_isGlove_1 (by decide) ?_
  refine wp_aload_n dX11_isGlove_2 rfl rfl ?_
  refine wp_getI dX11_isGlove_3 rfl fb_11_20 m_4_175 ?_
  refine wp_iconst (v := 1) dX11_isGlove_6 (by decide) ?_
  refine wp_isub dX11_isGlove_7 ?_
  refine wp_callSI (d1 := 1) (As := [.int x1, .int 0, .int ((M.1 71 20) - 1)]) (st := []) dX11_isGlove_8 cm_X11_in m_5_32 (by decide) rfl (Nat.le_of_ble_eq_true rfl) rfl h ?_
  intro r2 M1 h
  exact wp_iret (ty := .boolean) dX11_isGlove_11 rfl h.1 h.2
abbrev C_X11_all (G : Glob)  (M : Mem) (Q : Option Value → Mem → Prop) : Prop := WpM G 1 Y_X11_all [.ref (ad G 71)] M Q
set_option maxRecDepth 20000 in
theorem v_X11_all {G : Glob} {M : Mem} {Q : Option Value → Mem → Prop}  (h : Q (some (.int ((1 <<< ((M.1 71 20) &&& 31)) - 1))) M) : C_X11_all G  M Q := by
  refine wp_enter (ls0 := [some (.ref (ad G 71))]) (by decide +kernel) (Nat.le_of_ble_eq_true rfl) rfl ?_
  refine wp_iconst (v := 1) dX11_all_0 (by decide) ?_
  refine wp_aload_n dX11_all_1 rfl rfl ?_
  refine wp_getI dX11_all_2 rfl fb_11_20 m_4_175 ?_
  refine wp_ishl dX11_all_5 ?_
  refine wp_iconst (v := 1) dX11_all_6 (by decide) ?_
  refine wp_isub dX11_all_7 ?_
  exact wp_iret (ty := .int) dX11_all_8 rfl rfl h
abbrev C_X11_isOf (G : Glob) (x0 : Int32) (x1 : Int32) (M : Mem) (Q : Option Value → Mem → Prop) : Prop := WpM G 1 Y_X11_isOf [.int x0, .int x1] M Q
set_option maxRecDepth 20000 in
theorem v_X11_isOf {G : Glob} {x0 : Int32} {x1 : Int32} {M : Mem} {Q : Option Value → Mem → Prop}  (h : ((x0 = x1 → Q (some (.int 1)) M) ∧ (¬ x0 = x1 → ((x1 = 1 → ((x0 = 4 → Q (some (.int 1)) M) ∧ (¬ x0 = 4 → ((x1 = 2 → ((x0 = 5 → Q (some (.int 1)) M) ∧ (¬ x0 = 5 → Q (some (.int 0)) M))) ∧ (¬ x1 = 2 → Q (some (.int 0)) M))))) ∧ (¬ x1 = 1 → ((x1 = 2 → ((x0 = 5 → Q (some (.int 1)) M) ∧ (¬ x0 = 5 → Q (some (.int 0)) M))) ∧ (¬ x1 = 2 → Q (some (.int 0)) M))))))) : C_X11_isOf G x0 x1 M Q := by
  refine wp_enter (ls0 := [some (.int x0), some (.int x1)]) (by decide +kernel) (Nat.le_of_ble_eq_true rfl) rfl ?_
  refine wp_iload_n dX11_isOf_0 rfl rfl ?_
  refine wp_iload_n dX11_isOf_1 rfl rfl ?_
  refine wp_icmp_eq (tgt := 25) dX11_isOf_2 (by decide) (fun c1 => ?_) (fun c1 => ?_)
  · replace h := h.1 c1
    refine wp_iconst (v := 1) dX11_isOf_25 (by decide) ?_
    refine wp_goto (tgt := 30) dX11_isOf_26 (by decide) ?_
    exact wp_iret (ty := .boolean) dX11_isOf_30 rfl rfl h
  · replace h := h.2 c1
    refine wp_iload_n dX11_isOf_5 rfl rfl ?_
    refine wp_iconst (v := 1) dX11_isOf_6 (by decide) ?_
    refine wp_icmp_ne (tgt := 15) dX11_isOf_7 (by decide) (fun c2 => ?_) (fun c2 => ?_)
    · replace h := h.2 c2
      refine wp_iload_n dX11_isOf_15 rfl rfl ?_
      refine wp_iconst (v := 2) dX11_isOf_16 (by decide) ?_
      refine wp_icmp_ne (tgt := 29) dX11_isOf_17 (by decide) (fun c3 => ?_) (fun c3 => ?_)
      · replace h := h.2 c3
        refine wp_iconst (v := 0) dX11_isOf_29 (by decide) ?_
        exact wp_iret (ty := .boolean) dX11_isOf_30 rfl rfl h
      · replace h := h.1 c3
        refine wp_iload_n dX11_isOf_20 rfl rfl ?_
        refine wp_iconst (v := 5) dX11_isOf_21 (by decide) ?_
        refine wp_icmp_ne (tgt := 29) dX11_isOf_22 (by decide) (fun c4 => ?_) (fun c4 => ?_)
        · replace h := h.2 c4
          refine wp_iconst (v := 0) dX11_isOf_29 (by decide) ?_
          exact wp_iret (ty := .boolean) dX11_isOf_30 rfl rfl h
        · replace h := h.1 c4
          refine wp_iconst (v := 1) dX11_isOf_25 (by decide) ?_
          refine wp_goto (tgt := 30) dX11_isOf_26 (by decide) ?_
          exact wp_iret (ty := .boolean) dX11_isOf_30 rfl rfl h
    · replace h := h.1 c2
      refine wp_iload_n dX11_isOf_10 rfl rfl ?_
      refine wp_iconst (v := 4) dX11_isOf_11 (by decide) ?_
      refine wp_icmp_eq (tgt := 25) dX11_isOf_12 (by decide) (fun c5 => ?_) (fun c5 => ?_)
      · replace h := h.1 c5
        refine wp_iconst (v := 1) dX11_isOf_25 (by decide) ?_
        refine wp_goto (tgt := 30) dX11_isOf_26 (by decide) ?_
        exact wp_iret (ty := .boolean) dX11_isOf_30 rfl rfl h
      · replace h := h.2 c5
        refine wp_iload_n dX11_isOf_15 rfl rfl ?_
        refine wp_iconst (v := 2) dX11_isOf_16 (by decide) ?_
        refine wp_icmp_ne (tgt := 29) dX11_isOf_17 (by decide) (fun c6 => ?_) (fun c6 => ?_)
        · replace h := h.2 c6
          refine wp_iconst (v := 0) dX11_isOf_29 (by decide) ?_
          exact wp_iret (ty := .boolean) dX11_isOf_30 rfl rfl h
        · replace h := h.1 c6
          refine wp_iload_n dX11_isOf_20 rfl rfl ?_
          refine wp_iconst (v := 5) dX11_isOf_21 (by decide) ?_
          refine wp_icmp_ne (tgt := 29) dX11_isOf_22 (by decide) (fun c7 => ?_) (fun c7 => ?_)
          · replace h := h.2 c7
            refine wp_iconst (v := 0) dX11_isOf_29 (by decide) ?_
            exact wp_iret (ty := .boolean) dX11_isOf_30 rfl rfl h
          · replace h := h.1 c7
            refine wp_iconst (v := 1) dX11_isOf_25 (by decide) ?_
            refine wp_goto (tgt := 30) dX11_isOf_26 (by decide) ?_
            exact wp_iret (ty := .boolean) dX11_isOf_30 rfl rfl h
abbrev P_X11_warmthAs_26 (G : Glob) (x1 : Int32) (x2 : Int32) (x3 : Int32) (M : Mem) (Q : Option Value → Mem → Prop) : Prop := Wp G 1 Y_X11_warmthAs 26 [some (.ref (ad G 71)), some (.int x1), some (.int x2), some (.int x3)] [] M Q
set_option maxRecDepth 20000 in
theorem v_X11_warmthAs_26 {G : Glob} {x1 : Int32} {x2 : Int32} {x3 : Int32} {M : Mem} {Q : Option Value → Mem → Prop}  (h : ((x1 = 1 → Q (some (.int (x3 + 2))) M) ∧ (¬ x1 = 1 → ((x1 = 2 → (((0 : Int32) < x3 → Q (some (.int (x3 - 1))) M) ∧ (¬ (0 : Int32) < x3 → Q (some (.int 0)) M))) ∧ (¬ x1 = 2 → ((x1 = 3 → Q (some (.int x3)) M) ∧ (¬ x1 = 3 → ((x1 = 4 → (vp_in x2 8 ∧ (((M.1 87 x2.toNatClampNeg) < 6 → Q (some (.int (x3 + 3))) M) ∧ (¬ (M.1 87 x2.toNatClampNeg) < 6 → Q (some (.int x3)) M)))) ∧ (¬ x1 = 4 → ((x1 = 5 → (((0 : Int32) < x3 → Q (some (.int (x3 - 1))) M) ∧ (¬ (0 : Int32) < x3 → Q (some (.int 0)) M))) ∧ (¬ x1 = 5 → Q (some (.int x3)) M))))))))))) : P_X11_warmthAs_26 G x1 x2 x3 M Q := by
  refine wp_iload_n dX11_warmthAs_26 rfl rfl ?_
  rcases Decidable.em (x1 = 1) with n0 | n0
  · replace h := h.1 n0
    refine wp_tswI (tgt := 60) (v := 1) dX11_warmthAs_27 n0 (by decide) (by decide) rfl (by decide) ?_
    refine wp_iload_n dX11_warmthAs_60 rfl rfl ?_
    refine wp_iconst (v := 2) dX11_warmthAs_61 (by decide) ?_
    refine wp_iadd dX11_warmthAs_62 ?_
    exact wp_iret (ty := .int) dX11_warmthAs_63 rfl rfl h
  · replace h := h.2 n0
    rcases Decidable.em (x1 = 2) with n1 | n1
    · replace h := h.1 n1
      refine wp_tswI (tgt := 64) (v := 2) dX11_warmthAs_27 n1 (by decide) (by decide) rfl (by decide) ?_
      refine wp_iload_n dX11_warmthAs_64 rfl rfl ?_
      refine wp_if_le (tgt := 74) dX11_warmthAs_65 (by decide) (fun c1 => ?_) (fun c1 => ?_)
      · replace h := h.2 c1
        refine wp_iconst (v := 0) dX11_warmthAs_74 (by decide) ?_
        exact wp_iret (ty := .int) dX11_warmthAs_75 rfl rfl h
      · replace h := h.1 c1
        refine wp_iload_n dX11_warmthAs_68 rfl rfl ?_
        refine wp_iconst (v := 1) dX11_warmthAs_69 (by decide) ?_
        refine wp_isub dX11_warmthAs_70 ?_
        refine wp_goto (tgt := 75) dX11_warmthAs_71 (by decide) ?_
        exact wp_iret (ty := .int) dX11_warmthAs_75 rfl rfl h
    · replace h := h.2 n1
      rcases Decidable.em (x1 = 3) with n2 | n2
      · replace h := h.1 n2
        refine wp_tswI (tgt := 95) (v := 3) dX11_warmthAs_27 n2 (by decide) (by decide) rfl (by decide) ?_
        refine wp_iload_n dX11_warmthAs_95 rfl rfl ?_
        exact wp_iret (ty := .int) dX11_warmthAs_96 rfl rfl h
      · replace h := h.2 n2
        rcases Decidable.em (x1 = 4) with n3 | n3
        · replace h := h.1 n3
          refine wp_tswI (tgt := 76) (v := 4) dX11_warmthAs_27 n3 (by decide) (by decide) rfl (by decide) ?_
          refine wp_aload_n dX11_warmthAs_76 rfl rfl ?_
          refine wp_getR (b := 87) dX11_warmthAs_77 rfl rfl fb_11_26 m_4_181 ?_
          refine wp_iload_n dX11_warmthAs_80 rfl rfl ?_
          obtain ⟨b2, h⟩ := h
          refine wp_iald (n := 8) dX11_warmthAs_81 rfl rfl b2 ?_
          refine wp_bipush (v := 6) dX11_warmthAs_82 (by decide) ?_
          refine wp_icmp_ge (tgt := 93) dX11_warmthAs_84 (by decide) (fun c3 => ?_) (fun c3 => ?_)
          · replace h := h.2 c3
            refine wp_iload_n dX11_warmthAs_93 rfl rfl ?_
            exact wp_iret (ty := .int) dX11_warmthAs_94 rfl rfl h
          · replace h := h.1 c3
            refine wp_iload_n dX11_warmthAs_87 rfl rfl ?_
            refine wp_iconst (v := 3) dX11_warmthAs_88 (by decide) ?_
            refine wp_iadd dX11_warmthAs_89 ?_
            refine wp_goto (tgt := 94) dX11_warmthAs_90 (by decide) ?_
            exact wp_iret (ty := .int) dX11_warmthAs_94 rfl rfl h
        · replace h := h.2 n3
          rcases Decidable.em (x1 = 5) with n4 | n4
          · replace h := h.1 n4
            refine wp_tswI (tgt := 64) (v := 5) dX11_warmthAs_27 n4 (by decide) (by decide) rfl (by decide) ?_
            refine wp_iload_n dX11_warmthAs_64 rfl rfl ?_
            refine wp_if_le (tgt := 74) dX11_warmthAs_65 (by decide) (fun c4 => ?_) (fun c4 => ?_)
            · replace h := h.2 c4
              refine wp_iconst (v := 0) dX11_warmthAs_74 (by decide) ?_
              exact wp_iret (ty := .int) dX11_warmthAs_75 rfl rfl h
            · replace h := h.1 c4
              refine wp_iload_n dX11_warmthAs_68 rfl rfl ?_
              refine wp_iconst (v := 1) dX11_warmthAs_69 (by decide) ?_
              refine wp_isub dX11_warmthAs_70 ?_
              refine wp_goto (tgt := 75) dX11_warmthAs_71 (by decide) ?_
              exact wp_iret (ty := .int) dX11_warmthAs_75 rfl rfl h
          · replace h := h.2 n4
            refine wp_tswD (tgt := 95) dX11_warmthAs_27 (by have e0 : (x1 : Int32).toInt ≠ 1 := fun e => n0 (Int32.toInt_inj.mp e); have e1 : (x1 : Int32).toInt ≠ 2 := fun e => n1 (Int32.toInt_inj.mp e); have e2 : (x1 : Int32).toInt ≠ 3 := fun e => n2 (Int32.toInt_inj.mp e); have e3 : (x1 : Int32).toInt ≠ 4 := fun e => n3 (Int32.toInt_inj.mp e); have e4 : (x1 : Int32).toInt ≠ 5 := fun e => n4 (Int32.toInt_inj.mp e); omega) (by decide) ?_
            refine wp_iload_n dX11_warmthAs_95 rfl rfl ?_
            exact wp_iret (ty := .int) dX11_warmthAs_96 rfl rfl h
abbrev C_X11_warmthAs (G : Glob) (x1 : Int32) (x2 : Int32) (M : Mem) (Q : Option Value → Mem → Prop) : Prop := WpM G 1 Y_X11_warmthAs [.ref (ad G 71), .int x1, .int x2] M Q
set_option maxRecDepth 20000 in
theorem v_X11_warmthAs {G : Glob} {x1 : Int32} {x2 : Int32} {M : Mem} {Q : Option Value → Mem → Prop}  (h : (vp_in x2 8 ∧ (vp_in x2 8 ∧ (∀ y3 : Int32, y3 = ((M.1 85 x2.toNatClampNeg) - ((M.1 87 x2.toNatClampNeg) / 3)) → ((y3 < 0 → P_X11_warmthAs_26 G x1 x2 0 M Q) ∧ (¬ y3 < 0 → P_X11_warmthAs_26 G x1 x2 y3 M Q)))))) : C_X11_warmthAs G x1 x2 M Q := by
  refine wp_enter (ls0 := [some (.ref (ad G 71)), some (.int x1), some (.int x2), none]) (by decide +kernel) (Nat.le_of_ble_eq_true rfl) rfl ?_
  refine wp_aload_n dX11_warmthAs_0 rfl rfl ?_
  refine wp_getR (b := 85) dX11_warmthAs_1 rfl rfl fb_11_24 m_4_179 ?_
  refine wp_iload_n dX11_warmthAs_4 rfl rfl ?_
  obtain ⟨b1, h⟩ := h
  refine wp_iald (n := 8) dX11_warmthAs_5 rfl rfl b1 ?_
  refine wp_aload_n dX11_warmthAs_6 rfl rfl ?_
  refine wp_getR (b := 87) dX11_warmthAs_7 rfl rfl fb_11_26 m_4_181 ?_
  refine wp_iload_n dX11_warmthAs_10 rfl rfl ?_
  obtain ⟨b2, h⟩ := h
  refine wp_iald (n := 8) dX11_warmthAs_11 rfl rfl b2 ?_
  refine wp_iconst (v := 3) dX11_warmthAs_12 (by decide) ?_
  refine wp_idiv dX11_warmthAs_13 (by decide) ?_
  refine wp_isub dX11_warmthAs_14 ?_
  refine wp_topI (fun y3 hy3 => ?_)
  replace h := h y3 hy3
  refine wp_istore_n (ls' := [some (.ref (ad G 71)), some (.int x1), some (.int x2), some (.int y3)]) dX11_warmthAs_15 rfl (by decide) rfl rfl ?_
  refine wp_iload_n dX11_warmthAs_16 rfl rfl ?_
  refine wp_if_ge (tgt := 24) dX11_warmthAs_17 (by decide) (fun c4 => ?_) (fun c4 => ?_)
  · replace h := h.2 c4
    refine wp_iload_n dX11_warmthAs_24 rfl rfl ?_
    refine wp_istore_n (ls' := [some (.ref (ad G 71)), some (.int x1), some (.int x2), some (.int y3)]) dX11_warmthAs_25 rfl (by decide) rfl rfl ?_
    exact h
  · replace h := h.1 c4
    refine wp_iconst (v := 0) dX11_warmthAs_20 (by decide) ?_
    refine wp_goto (tgt := 25) dX11_warmthAs_21 (by decide) ?_
    refine wp_istore_n (ls' := [some (.ref (ad G 71)), some (.int x1), some (.int x2), some (.int 0)]) dX11_warmthAs_25 rfl (by decide) rfl rfl ?_
    exact h
abbrev C_X11_goesOn (G : Glob) (x0 : Int32) (x1 : Int32) (M : Mem) (Q : Option Value → Mem → Prop) : Prop := WpM G 2 Y_X11_goesOn [.int x0, .int x1] M Q
set_option maxRecDepth 20000 in
theorem v_X11_goesOn {G : Glob} {x0 : Int32} {x1 : Int32} {M : Mem} {Q : Option Value → Mem → Prop}  (h : (WpM G 1 Y_X11_isOf [.int x0, .int 2] M (RI (fun r2 M1 => ((r2 = 0 → Q (some (.int (1 <<< (x1 &&& 31)))) M1) ∧ (¬ r2 = 0 → Q (some (.int 3)) M1)))))) : C_X11_goesOn G x0 x1 M Q := by
  refine wp_enter (ls0 := [some (.int x0), some (.int x1)]) (by decide +kernel) (Nat.le_of_ble_eq_true rfl) rfl ?_
  refine wp_iload_n dX11_goesOn_0 rfl rfl ?_
  refine wp_iconst (v := 2) dX11_goesOn_1 (by decide) ?_
  refine wp_callSI (d1 := 1) (As := [.int x0, .int 2]) (st := []) dX11_goesOn_2 cm_X11_isOf m_5_137 (by decide) rfl (Nat.le_of_ble_eq_true rfl) rfl h ?_
  intro r2 M1 h
  refine wp_if_eq (tgt := 12) dX11_goesOn_5 (by decide) (fun c3 => ?_) (fun c3 => ?_)
  · replace h := h.1 c3
    refine wp_iconst (v := 1) dX11_goesOn_12 (by decide) ?_
    refine wp_iload_n dX11_goesOn_13 rfl rfl ?_
    refine wp_ishl dX11_goesOn_14 ?_
    exact wp_iret (ty := .int) dX11_goesOn_15 rfl rfl h
  · replace h := h.2 c3
    refine wp_iconst (v := 3) dX11_goesOn_8 (by decide) ?_
    refine wp_goto (tgt := 15) dX11_goesOn_9 (by decide) ?_
    exact wp_iret (ty := .int) dX11_goesOn_15 rfl rfl h
abbrev P_X11_pairAs_43 (G : Glob) (x1 : Int32) (x2 : Int32) (x3 : Int32) (x5 : Int32) (M : Mem) (Q : Option Value → Mem → Prop) : Prop := Wp G 3 Y_X11_pairAs 43 [some (.ref (ad G 71)), some (.int x1), some (.int x2), some (.int x3), none, some (.int x5), none, none, none, none, none] [] M Q
abbrev P_X11_pairAs_77 (G : Glob) (x1 : Int32) (x2 : Int32) (x5 : Int32) (x8 : Int32) (M : Mem) (Q : Option Value → Mem → Prop) : Prop := Wp G 3 Y_X11_pairAs 77 [some (.ref (ad G 71)), some (.int x1), some (.int x2), none, none, some (.int x5), none, none, some (.int x8), none, none] [] M Q
abbrev P_X11_pairAs_93 (G : Glob) (x1 : Int32) (x2 : Int32) (x5 : Int32) (x8 : Int32) (M : Mem) (Q : Option Value → Mem → Prop) : Prop := Wp G 3 Y_X11_pairAs 93 [some (.ref (ad G 71)), some (.int x1), some (.int x2), none, none, some (.int x5), none, none, some (.int x8), none, none] [] M Q
abbrev P_X11_pairAs_100 (G : Glob) (x1 : Int32) (x2 : Int32) (x5 : Int32) (x8 : Int32) (x9 : Int32) (M : Mem) (Q : Option Value → Mem → Prop) : Prop := Wp G 3 Y_X11_pairAs 100 [some (.ref (ad G 71)), some (.int x1), some (.int x2), none, none, some (.int x5), none, none, some (.int x8), some (.int x9), none] [] M Q
set_option maxRecDepth 20000 in
theorem v_X11_pairAs_43 {G : Glob} {x1 : Int32} {x2 : Int32} {x3 : Int32} {x5 : Int32} {M : Mem} {Q : Option Value → Mem → Prop}  (h : (vp_in x5 8 ∧ ((x3 < (M.1 83 x5.toNatClampNeg) → (vp_in x5 8 ∧ (∀ y6 : Int32, y6 = ((M.1 83 x5.toNatClampNeg) - x3) → P_X11_pairAs_77 G x1 x2 x5 y6 M Q))) ∧ (¬ x3 < (M.1 83 x5.toNatClampNeg) → (vp_in x5 8 ∧ (∀ y4 : Int32, y4 = (x3 - (M.1 83 x5.toNatClampNeg)) → P_X11_pairAs_77 G x1 x2 x5 y4 M Q)))))) : P_X11_pairAs_43 G x1 x2 x3 x5 M Q := by
  refine wp_iload_n dX11_pairAs_43 rfl rfl ?_
  refine wp_aload_n dX11_pairAs_44 rfl rfl ?_
  refine wp_getR (b := 83) dX11_pairAs_45 rfl rfl fb_11_22 m_4_177 ?_
  refine wp_iload dX11_pairAs_48 rfl ?_
  obtain ⟨b1, h⟩ := h
  refine wp_iald (n := 8) dX11_pairAs_50 rfl rfl b1 ?_
  refine wp_icmp_ge (tgt := 66) dX11_pairAs_51 (by decide) (fun c2 => ?_) (fun c2 => ?_)
  · replace h := h.2 c2
    refine wp_iload_n dX11_pairAs_66 rfl rfl ?_
    refine wp_aload_n dX11_pairAs_67 rfl rfl ?_
    refine wp_getR (b := 83) dX11_pairAs_68 rfl rfl fb_11_22 m_4_177 ?_
    refine wp_iload dX11_pairAs_71 rfl ?_
    obtain ⟨b3, h⟩ := h
    refine wp_iald (n := 8) dX11_pairAs_73 rfl rfl b3 ?_
    refine wp_isub dX11_pairAs_74 ?_
    refine wp_topI (fun y4 hy4 => ?_)
    replace h := h y4 hy4
    refine wp_istore (ls' := [some (.ref (ad G 71)), some (.int x1), some (.int x2), some (.int x3), none, some (.int x5), none, none, some (.int y4), none, none]) dX11_pairAs_75 (by decide) rfl rfl ?_
    exact wp_mask [true, true, true, false, false, true, false, false, true, false, false] rfl h
  · replace h := h.1 c2
    refine wp_aload_n dX11_pairAs_54 rfl rfl ?_
    refine wp_getR (b := 83) dX11_pairAs_55 rfl rfl fb_11_22 m_4_177 ?_
    refine wp_iload dX11_pairAs_58 rfl ?_
    obtain ⟨b5, h⟩ := h
    refine wp_iald (n := 8) dX11_pairAs_60 rfl rfl b5 ?_
    refine wp_iload_n dX11_pairAs_61 rfl rfl ?_
    refine wp_isub dX11_pairAs_62 ?_
    refine wp_goto (tgt := 75) dX11_pairAs_63 (by decide) ?_
    refine wp_topI (fun y6 hy6 => ?_)
    replace h := h y6 hy6
    refine wp_istore (ls' := [some (.ref (ad G 71)), some (.int x1), some (.int x2), some (.int x3), none, some (.int x5), none, none, some (.int y6), none, none]) dX11_pairAs_75 (by decide) rfl rfl ?_
    exact wp_mask [true, true, true, false, false, true, false, false, true, false, false] rfl h
set_option maxRecDepth 20000 in
theorem v_X11_pairAs_77 {G : Glob} {x1 : Int32} {x2 : Int32} {x5 : Int32} {x8 : Int32} {M : Mem} {Q : Option Value → Mem → Prop}  (h : ((x2 = 5 → P_X11_pairAs_93 G x1 x2 x5 x8 M Q) ∧ (¬ x2 = 5 → (vp_in x5 8 ∧ (((M.1 82 x5.toNatClampNeg) = 5 → P_X11_pairAs_93 G x1 x2 x5 x8 M Q) ∧ (¬ (M.1 82 x5.toNatClampNeg) = 5 → P_X11_pairAs_100 G x1 x2 x5 x8 0 M Q)))))) : P_X11_pairAs_77 G x1 x2 x5 x8 M Q := by
  refine wp_iload_n dX11_pairAs_77 rfl rfl ?_
  refine wp_iconst (v := 5) dX11_pairAs_78 (by decide) ?_
  refine wp_icmp_eq (tgt := 93) dX11_pairAs_79 (by decide) (fun c1 => ?_) (fun c1 => ?_)
  · replace h := h.1 c1
    exact h
  · replace h := h.2 c1
    refine wp_aload_n dX11_pairAs_82 rfl rfl ?_
    refine wp_getR (b := 82) dX11_pairAs_83 rfl rfl fb_11_21 m_4_176 ?_
    refine wp_iload dX11_pairAs_86 rfl ?_
    obtain ⟨b2, h⟩ := h
    refine wp_iald (n := 8) dX11_pairAs_88 rfl rfl b2 ?_
    refine wp_iconst (v := 5) dX11_pairAs_89 (by decide) ?_
    refine wp_icmp_ne (tgt := 97) dX11_pairAs_90 (by decide) (fun c3 => ?_) (fun c3 => ?_)
    · replace h := h.2 c3
      refine wp_iconst (v := 0) dX11_pairAs_97 (by decide) ?_
      refine wp_istore (ls' := [some (.ref (ad G 71)), some (.int x1), some (.int x2), none, none, some (.int x5), none, none, some (.int x8), some (.int 0), none]) dX11_pairAs_98 (by decide) rfl rfl ?_
      exact h
    · replace h := h.1 c3
      exact h
set_option maxRecDepth 20000 in
theorem v_X11_pairAs_93 {G : Glob} {x1 : Int32} {x2 : Int32} {x5 : Int32} {x8 : Int32} {M : Mem} {Q : Option Value → Mem → Prop}  (h : P_X11_pairAs_100 G x1 x2 x5 x8 1 M Q) : P_X11_pairAs_93 G x1 x2 x5 x8 M Q := by
  refine wp_iconst (v := 1) dX11_pairAs_93 (by decide) ?_
  refine wp_goto (tgt := 98) dX11_pairAs_94 (by decide) ?_
  refine wp_istore (ls' := [some (.ref (ad G 71)), some (.int x1), some (.int x2), none, none, some (.int x5), none, none, some (.int x8), some (.int 1), none]) dX11_pairAs_98 (by decide) rfl rfl ?_
  exact h
set_option maxRecDepth 20000 in
theorem v_X11_pairAs_100 {G : Glob} {x1 : Int32} {x2 : Int32} {x5 : Int32} {x8 : Int32} {x9 : Int32} {M : Mem} {Q : Option Value → Mem → Prop}  (h : (WpM G 1 Y_X11_warmthAs [.ref (ad G 71), .int x2, .int x1] M (RI (fun r2 M1 => (vp_in x5 8 ∧ (WpM G 1 Y_X11_warmthAs [.ref (ad G 71), .int (M1.1 82 x5.toNatClampNeg), .int x5] M1 (RI (fun r5 M4 => ((x9 = 0 → ((((r2 + r5) - (2 * x8)) < 0 → Q (some (.int 0)) M4) ∧ (¬ ((r2 + r5) - (2 * x8)) < 0 → Q (some (.int ((r2 + r5) - (2 * x8)))) M4))) ∧ (¬ x9 = 0 → ((((r2 + r5) - 0) < 0 → Q (some (.int 0)) M4) ∧ (¬ ((r2 + r5) - 0) < 0 → Q (some (.int ((r2 + r5) - 0))) M4)))))))))))) : P_X11_pairAs_100 G x1 x2 x5 x8 x9 M Q := by
  refine wp_aload_n dX11_pairAs_100 rfl rfl ?_
  refine wp_iload_n dX11_pairAs_101 rfl rfl ?_
  refine wp_iload_n dX11_pairAs_102 rfl rfl ?_
  refine wp_callVI (a := 71) (d1 := 1) (As := [.int x2, .int x1]) (st := []) dX11_pairAs_103 rfl cm_X11_warmthAs m_5_129 (by decide) rfl (Nat.le_of_ble_eq_true rfl) rfl h ?_
  intro r2 M1 h
  refine wp_aload_n dX11_pairAs_106 rfl rfl ?_
  refine wp_aload_n dX11_pairAs_107 rfl rfl ?_
  refine wp_getR (b := 82) dX11_pairAs_108 rfl rfl fb_11_21 m_4_176 ?_
  refine wp_iload dX11_pairAs_111 rfl ?_
  obtain ⟨b3, h⟩ := h
  refine wp_iald (n := 8) dX11_pairAs_113 rfl rfl b3 ?_
  refine wp_iload dX11_pairAs_114 rfl ?_
  refine wp_callVI (a := 71) (d1 := 1) (As := [.int (M1.1 82 x5.toNatClampNeg), .int x5]) (st := [.int r2]) dX11_pairAs_116 rfl cm_X11_warmthAs m_5_129 (by decide) rfl (Nat.le_of_ble_eq_true rfl) rfl h ?_
  intro r5 M4 h
  refine wp_iadd dX11_pairAs_119 ?_
  refine wp_iload dX11_pairAs_120 rfl ?_
  refine wp_if_eq (tgt := 129) dX11_pairAs_122 (by decide) (fun c6 => ?_) (fun c6 => ?_)
  · replace h := h.1 c6
    refine wp_iconst (v := 2) dX11_pairAs_129 (by decide) ?_
    refine wp_iload dX11_pairAs_130 rfl ?_
    refine wp_imul dX11_pairAs_132 ?_
    refine wp_isub dX11_pairAs_133 ?_
    refine wp_istore (ls' := [some (.ref (ad G 71)), some (.int x1), some (.int x2), none, none, some (.int x5), none, none, some (.int x8), some (.int x9), some (.int ((r2 + r5) - (2 * x8)))]) dX11_pairAs_134 (by decide) rfl rfl ?_
    refine wp_iload dX11_pairAs_136 rfl ?_
    refine wp_if_ge (tgt := 145) dX11_pairAs_138 (by decide) (fun c7 => ?_) (fun c7 => ?_)
    · replace h := h.2 c7
      refine wp_iload dX11_pairAs_145 rfl ?_
      exact wp_iret (ty := .int) dX11_pairAs_147 rfl rfl h
    · replace h := h.1 c7
      refine wp_iconst (v := 0) dX11_pairAs_141 (by decide) ?_
      refine wp_goto (tgt := 147) dX11_pairAs_142 (by decide) ?_
      exact wp_iret (ty := .int) dX11_pairAs_147 rfl rfl h
  · replace h := h.2 c6
    refine wp_iconst (v := 0) dX11_pairAs_125 (by decide) ?_
    refine wp_goto (tgt := 133) dX11_pairAs_126 (by decide) ?_
    refine wp_isub dX11_pairAs_133 ?_
    refine wp_istore (ls' := [some (.ref (ad G 71)), some (.int x1), some (.int x2), none, none, some (.int x5), none, none, some (.int x8), some (.int x9), some (.int ((r2 + r5) - 0))]) dX11_pairAs_134 (by decide) rfl rfl ?_
    refine wp_iload dX11_pairAs_136 rfl ?_
    refine wp_if_ge (tgt := 145) dX11_pairAs_138 (by decide) (fun c8 => ?_) (fun c8 => ?_)
    · replace h := h.2 c8
      refine wp_iload dX11_pairAs_145 rfl ?_
      exact wp_iret (ty := .int) dX11_pairAs_147 rfl rfl h
    · replace h := h.1 c8
      refine wp_iconst (v := 0) dX11_pairAs_141 (by decide) ?_
      refine wp_goto (tgt := 147) dX11_pairAs_142 (by decide) ?_
      exact wp_iret (ty := .int) dX11_pairAs_147 rfl rfl h
abbrev C_X11_pairAs (G : Glob) (x1 : Int32) (x2 : Int32) (x3 : Int32) (x4 : Int32) (x5 : Int32) (M : Mem) (Q : Option Value → Mem → Prop) : Prop := WpM G 3 Y_X11_pairAs [.ref (ad G 71), .int x1, .int x2, .int x3, .int x4, .int x5] M Q
set_option maxRecDepth 20000 in
theorem v_X11_pairAs {G : Glob} {x1 : Int32} {x2 : Int32} {x3 : Int32} {x4 : Int32} {x5 : Int32} {M : Mem} {Q : Option Value → Mem → Prop}  (h : (WpM G 2 Y_X11_goesOn [.int x2, .int x4] M (RI (fun r2 M1 => (vp_in x5 8 ∧ (vp_in x5 8 ∧ (WpM G 2 Y_X11_goesOn [.int (M1.1 82 x5.toNatClampNeg), .int (M1.1 84 x5.toNatClampNeg)] M1 (RI (fun r6 M5 => ((r2 = r6 → ((r2 = 3 → P_X11_pairAs_43 G x1 x2 x3 x5 M5 Q) ∧ (¬ r2 = 3 → Q (some (.int (-9 : Int32))) M5))) ∧ (¬ r2 = r6 → P_X11_pairAs_43 G x1 x2 x3 x5 M5 Q))))))))))) : C_X11_pairAs G x1 x2 x3 x4 x5 M Q := by
  refine wp_enter (ls0 := [some (.ref (ad G 71)), some (.int x1), some (.int x2), some (.int x3), some (.int x4), some (.int x5), none, none, none, none, none]) (by decide +kernel) (Nat.le_of_ble_eq_true rfl) rfl ?_
  refine wp_iload_n dX11_pairAs_0 rfl rfl ?_
  refine wp_iload dX11_pairAs_1 rfl ?_
  refine wp_callSI (d1 := 2) (As := [.int x2, .int x4]) (st := []) dX11_pairAs_3 cm_X11_goesOn m_5_148 (by decide) rfl (Nat.le_of_ble_eq_true rfl) rfl h ?_
  intro r2 M1 h
  refine wp_istore (ls' := [some (.ref (ad G 71)), some (.int x1), some (.int x2), some (.int x3), some (.int x4), some (.int x5), some (.int r2), none, none, none, none]) dX11_pairAs_6 (by decide) rfl rfl ?_
  refine wp_aload_n dX11_pairAs_8 rfl rfl ?_
  refine wp_getR (b := 82) dX11_pairAs_9 rfl rfl fb_11_21 m_4_176 ?_
  refine wp_iload dX11_pairAs_12 rfl ?_
  obtain ⟨b3, h⟩ := h
  refine wp_iald (n := 8) dX11_pairAs_14 rfl rfl b3 ?_
  refine wp_aload_n dX11_pairAs_15 rfl rfl ?_
  refine wp_getR (b := 84) dX11_pairAs_16 rfl rfl fb_11_23 m_4_178 ?_
  refine wp_iload dX11_pairAs_19 rfl ?_
  obtain ⟨b4, h⟩ := h
  refine wp_iald (n := 8) dX11_pairAs_21 rfl rfl b4 ?_
  refine wp_callSI (d1 := 2) (As := [.int (M1.1 82 x5.toNatClampNeg), .int (M1.1 84 x5.toNatClampNeg)]) (st := []) dX11_pairAs_22 cm_X11_goesOn m_5_148 (by decide) rfl (Nat.le_of_ble_eq_true rfl) rfl h ?_
  intro r6 M5 h
  refine wp_istore (ls' := [some (.ref (ad G 71)), some (.int x1), some (.int x2), some (.int x3), some (.int x4), some (.int x5), some (.int r2), some (.int r6), none, none, none]) dX11_pairAs_25 (by decide) rfl rfl ?_
  refine wp_iload dX11_pairAs_27 rfl ?_
  refine wp_iload dX11_pairAs_29 rfl ?_
  refine wp_icmp_ne (tgt := 43) dX11_pairAs_31 (by decide) (fun c7 => ?_) (fun c7 => ?_)
  · replace h := h.2 c7
    exact wp_mask [true, true, true, true, false, true, false, false, false, false, false] rfl h
  · replace h := h.1 c7
    refine wp_iload dX11_pairAs_34 rfl ?_
    refine wp_iconst (v := 3) dX11_pairAs_36 (by decide) ?_
    refine wp_icmp_eq (tgt := 43) dX11_pairAs_37 (by decide) (fun c8 => ?_) (fun c8 => ?_)
    · replace h := h.1 c8
      exact wp_mask [true, true, true, true, false, true, false, false, false, false, false] rfl h
    · replace h := h.2 c8
      refine wp_bipush (v := (-9 : Int32)) dX11_pairAs_40 (by decide) ?_
      exact wp_iret (ty := .int) dX11_pairAs_42 rfl rfl h
abbrev C_X11_pairOf (G : Glob) (x1 : Int32) (x2 : Int32) (M : Mem) (Q : Option Value → Mem → Prop) : Prop := WpM G 4 Y_X11_pairOf [.ref (ad G 71), .int x1, .int x2] M Q
set_option maxRecDepth 20000 in
theorem v_X11_pairOf {G : Glob} {x1 : Int32} {x2 : Int32} {M : Mem} {Q : Option Value → Mem → Prop}  (h : (vp_in x1 8 ∧ (vp_in x1 8 ∧ (vp_in x1 8 ∧ (WpM G 3 Y_X11_pairAs [.ref (ad G 71), .int x1, .int (M.1 82 x1.toNatClampNeg), .int (M.1 83 x1.toNatClampNeg), .int (M.1 84 x1.toNatClampNeg), .int x2] M (RI (fun r5 M4 => Q (some (.int r5)) M4))))))) : C_X11_pairOf G x1 x2 M Q := by
  refine wp_enter (ls0 := [some (.ref (ad G 71)), some (.int x1), some (.int x2)]) (by decide +kernel) (Nat.le_of_ble_eq_true rfl) rfl ?_
  refine wp_aload_n dX11_pairOf_0 rfl rfl ?_
  refine wp_iload_n dX11_pairOf_1 rfl rfl ?_
  refine wp_aload_n dX11_pairOf_2 rfl rfl ?_
  refine wp_getR (b := 82) dX11_pairOf_3 rfl rfl fb_11_21 m_4_176 ?_
  refine wp_iload_n dX11_pairOf_6 rfl rfl ?_
  obtain ⟨b1, h⟩ := h
  refine wp_iald (n := 8) dX11_pairOf_7 rfl rfl b1 ?_
  refine wp_aload_n dX11_pairOf_8 rfl rfl ?_
  refine wp_getR (b := 83) dX11_pairOf_9 rfl rfl fb_11_22 m_4_177 ?_
  refine wp_iload_n dX11_pairOf_12 rfl rfl ?_
  obtain ⟨b2, h⟩ := h
  refine wp_iald (n := 8) dX11_pairOf_13 rfl rfl b2 ?_
  refine wp_aload_n dX11_pairOf_14 rfl rfl ?_
  refine wp_getR (b := 84) dX11_pairOf_15 rfl rfl fb_11_23 m_4_178 ?_
  refine wp_iload_n dX11_pairOf_18 rfl rfl ?_
  obtain ⟨b3, h⟩ := h
  refine wp_iald (n := 8) dX11_pairOf_19 rfl rfl b3 ?_
  refine wp_iload_n dX11_pairOf_20 rfl rfl ?_
  refine wp_callVI (a := 71) (d1 := 3) (As := [.int x1, .int (M.1 82 x1.toNatClampNeg), .int (M.1 83 x1.toNatClampNeg), .int (M.1 84 x1.toNatClampNeg), .int x2]) (st := []) dX11_pairOf_21 rfl cm_X11_pairAs m_5_144 (by decide) rfl (Nat.le_of_ble_eq_true rfl) rfl h ?_
  intro r5 M4 h
  exact wp_iret (ty := .int) dX11_pairOf_24 rfl rfl h
abbrev P_X11_setIn_4 (G : Glob) (x1 : Int32) (x2 : Int32) (x3 : Int32) (M : Mem) (Q : Option Value → Mem → Prop) : Prop := Wp G 1 Y_X11_setIn 4 [some (.ref (ad G 71)), some (.int x1), some (.int x2), some (.int x3)] [] M Q
set_option maxRecDepth 20000 in
theorem v_X11_setIn_4 {G : Glob} {x1 : Int32} {x2 : Int32} {x3 : Int32} {M : Mem} {Q : Option Value → Mem → Prop}  (h : ((x3 < (M.1 71 20) → (vp_in x3 8 ∧ (((M.1 86 x3.toNatClampNeg) = x1 → (∀ y4 : Int32, y4 = (x2 ||| (1 <<< (x3 &&& 31))) → P_X11_setIn_4 G x1 y4 (x3 + 1) M Q)) ∧ (¬ (M.1 86 x3.toNatClampNeg) = x1 → P_X11_setIn_4 G x1 (x2 ||| 0) (x3 + 1) M Q)))) ∧ (¬ x3 < (M.1 71 20) → Q (some (.int x2)) M))) : P_X11_setIn_4 G x1 x2 x3 M Q := by
  refine wp_iload_n dX11_setIn_4 rfl rfl ?_
  refine wp_aload_n dX11_setIn_5 rfl rfl ?_
  refine wp_getI dX11_setIn_6 rfl fb_11_20 m_4_175 ?_
  refine wp_icmp_ge (tgt := 38) dX11_setIn_9 (by decide) (fun c1 => ?_) (fun c1 => ?_)
  · replace h := h.2 c1
    refine wp_iload_n dX11_setIn_38 rfl rfl ?_
    exact wp_iret (ty := .int) dX11_setIn_39 rfl rfl h
  · replace h := h.1 c1
    refine wp_iload_n dX11_setIn_12 rfl rfl ?_
    refine wp_aload_n dX11_setIn_13 rfl rfl ?_
    refine wp_getR (b := 86) dX11_setIn_14 rfl rfl fb_11_25 m_4_180 ?_
    refine wp_iload_n dX11_setIn_17 rfl rfl ?_
    obtain ⟨b2, h⟩ := h
    refine wp_iald (n := 8) dX11_setIn_18 rfl rfl b2 ?_
    refine wp_iload_n dX11_setIn_19 rfl rfl ?_
    refine wp_icmp_ne (tgt := 29) dX11_setIn_20 (by decide) (fun c3 => ?_) (fun c3 => ?_)
    · replace h := h.2 c3
      refine wp_iconst (v := 0) dX11_setIn_29 (by decide) ?_
      refine wp_ior dX11_setIn_30 ?_
      refine wp_istore_n (ls' := [some (.ref (ad G 71)), some (.int x1), some (.int (x2 ||| 0)), some (.int x3)]) dX11_setIn_31 rfl (by decide) rfl rfl ?_
      refine wp_iinc (v := (x3 + 1)) (ls' := [some (.ref (ad G 71)), some (.int x1), some (.int (x2 ||| 0)), some (.int (x3 + 1))]) dX11_setIn_32 rfl rfl (by decide) rfl rfl ?_
      refine wp_goto (tgt := 4) dX11_setIn_35 (by decide) ?_
      exact h
    · replace h := h.1 c3
      refine wp_iconst (v := 1) dX11_setIn_23 (by decide) ?_
      refine wp_iload_n dX11_setIn_24 rfl rfl ?_
      refine wp_ishl dX11_setIn_25 ?_
      refine wp_goto (tgt := 30) dX11_setIn_26 (by decide) ?_
      refine wp_ior dX11_setIn_30 ?_
      refine wp_topI (fun y4 hy4 => ?_)
      replace h := h y4 hy4
      refine wp_istore_n (ls' := [some (.ref (ad G 71)), some (.int x1), some (.int y4), some (.int x3)]) dX11_setIn_31 rfl (by decide) rfl rfl ?_
      refine wp_iinc (v := (x3 + 1)) (ls' := [some (.ref (ad G 71)), some (.int x1), some (.int y4), some (.int (x3 + 1))]) dX11_setIn_32 rfl rfl (by decide) rfl rfl ?_
      refine wp_goto (tgt := 4) dX11_setIn_35 (by decide) ?_
      exact h
abbrev C_X11_setIn (G : Glob) (x1 : Int32) (M : Mem) (Q : Option Value → Mem → Prop) : Prop := WpM G 1 Y_X11_setIn [.ref (ad G 71), .int x1] M Q
set_option maxRecDepth 20000 in
theorem v_X11_setIn {G : Glob} {x1 : Int32} {M : Mem} {Q : Option Value → Mem → Prop}  (h : P_X11_setIn_4 G x1 0 0 M Q) : C_X11_setIn G x1 M Q := by
  refine wp_enter (ls0 := [some (.ref (ad G 71)), some (.int x1), none, none]) (by decide +kernel) (Nat.le_of_ble_eq_true rfl) rfl ?_
  refine wp_iconst (v := 0) dX11_setIn_0 (by decide) ?_
  refine wp_istore_n (ls' := [some (.ref (ad G 71)), some (.int x1), some (.int 0), none]) dX11_setIn_1 rfl (by decide) rfl rfl ?_
  refine wp_iconst (v := 0) dX11_setIn_2 (by decide) ?_
  refine wp_istore_n (ls' := [some (.ref (ad G 71)), some (.int x1), some (.int 0), some (.int 0)]) dX11_setIn_3 rfl (by decide) rfl rfl ?_
  exact h
abbrev P_X11_manyOf_4 (G : Glob) (x0 : Int32) (x1 : Int32) (x2 : Int32) (M : Mem) (Q : Option Value → Mem → Prop) : Prop := Wp G 1 Y_X11_manyOf 4 [some (.int x0), some (.int x1), some (.int x2)] [] M Q
set_option maxRecDepth 20000 in
theorem v_X11_manyOf_4 {G : Glob} {x0 : Int32} {x1 : Int32} {x2 : Int32} {M : Mem} {Q : Option Value → Mem → Prop}  (h : ((x2 < 8 → (∀ y2 : Int32, y2 = (x1 + ((x0 >>> (x2 &&& 31)) &&& 1)) → P_X11_manyOf_4 G x0 y2 (x2 + 1) M Q)) ∧ (¬ x2 < 8 → Q (some (.int x1)) M))) : P_X11_manyOf_4 G x0 x1 x2 M Q := by
  refine wp_iload_n dX11_manyOf_4 rfl rfl ?_
  refine wp_bipush (v := 8) dX11_manyOf_5 (by decide) ?_
  refine wp_icmp_ge (tgt := 24) dX11_manyOf_7 (by decide) (fun c1 => ?_) (fun c1 => ?_)
  · replace h := h.2 c1
    refine wp_iload_n dX11_manyOf_24 rfl rfl ?_
    exact wp_iret (ty := .int) dX11_manyOf_25 rfl rfl h
  · replace h := h.1 c1
    refine wp_iload_n dX11_manyOf_10 rfl rfl ?_
    refine wp_iload_n dX11_manyOf_11 rfl rfl ?_
    refine wp_iload_n dX11_manyOf_12 rfl rfl ?_
    refine wp_ishr dX11_manyOf_13 ?_
    refine wp_iconst (v := 1) dX11_manyOf_14 (by decide) ?_
    refine wp_iand dX11_manyOf_15 ?_
    refine wp_iadd dX11_manyOf_16 ?_
    refine wp_topI (fun y2 hy2 => ?_)
    replace h := h y2 hy2
    refine wp_istore_n (ls' := [some (.int x0), some (.int y2), some (.int x2)]) dX11_manyOf_17 rfl (by decide) rfl rfl ?_
    refine wp_iinc (v := (x2 + 1)) (ls' := [some (.int x0), some (.int y2), some (.int (x2 + 1))]) dX11_manyOf_18 rfl rfl (by decide) rfl rfl ?_
    refine wp_goto (tgt := 4) dX11_manyOf_21 (by decide) ?_
    exact h
abbrev C_X11_manyOf (G : Glob) (x0 : Int32) (M : Mem) (Q : Option Value → Mem → Prop) : Prop := WpM G 1 Y_X11_manyOf [.int x0] M Q
set_option maxRecDepth 20000 in
theorem v_X11_manyOf {G : Glob} {x0 : Int32} {M : Mem} {Q : Option Value → Mem → Prop}  (h : P_X11_manyOf_4 G x0 0 0 M Q) : C_X11_manyOf G x0 M Q := by
  refine wp_enter (ls0 := [some (.int x0), none, none]) (by decide +kernel) (Nat.le_of_ble_eq_true rfl) rfl ?_
  refine wp_iconst (v := 0) dX11_manyOf_0 (by decide) ?_
  refine wp_istore_n (ls' := [some (.int x0), some (.int 0), none]) dX11_manyOf_1 rfl (by decide) rfl rfl ?_
  refine wp_iconst (v := 0) dX11_manyOf_2 (by decide) ?_
  refine wp_istore_n (ls' := [some (.int x0), some (.int 0), some (.int 0)]) dX11_manyOf_3 rfl (by decide) rfl rfl ?_
  exact h
abbrev C_X11_inDrawer (G : Glob)  (M : Mem) (Q : Option Value → Mem → Prop) : Prop := WpM G 2 Y_X11_inDrawer [.ref (ad G 71)] M Q
set_option maxRecDepth 20000 in
theorem v_X11_inDrawer {G : Glob} {M : Mem} {Q : Option Value → Mem → Prop}  (h : (WpM G 1 Y_X11_setIn [.ref (ad G 71), .int 0] M (RI (fun r2 M1 => (WpM G 1 Y_X11_manyOf [.int r2] M1 (RI (fun r4 M3 => Q (some (.int r4)) M3))))))) : C_X11_inDrawer G  M Q := by
  refine wp_enter (ls0 := [some (.ref (ad G 71))]) (by decide +kernel) (Nat.le_of_ble_eq_true rfl) rfl ?_
  refine wp_aload_n dX11_inDrawer_0 rfl rfl ?_
  refine wp_iconst (v := 0) dX11_inDrawer_1 (by decide) ?_
  refine wp_callVI (a := 71) (d1 := 1) (As := [.int 0]) (st := []) dX11_inDrawer_2 rfl cm_X11_setIn m_5_175 (by decide) rfl (Nat.le_of_ble_eq_true rfl) rfl h ?_
  intro r2 M1 h
  refine wp_callSI (d1 := 1) (As := [.int r2]) (st := []) dX11_inDrawer_5 cm_X11_manyOf m_5_179 (by decide) rfl (Nat.le_of_ble_eq_true rfl) rfl h ?_
  intro r4 M3 h
  exact wp_iret (ty := .int) dX11_inDrawer_8 rfl rfl h
abbrev C_X11_happen (G : Glob) (x1 : Int32) (x2 : Int32) (x3 : Int32) (M : Mem) (Q : Option Value → Mem → Prop) : Prop := WpM G 1 Y_X11_happen [.ref (ad G 71), .int x1, .int x2, .int x3] M Q
set_option maxRecDepth 20000 in
theorem v_X11_happen {G : Glob} {x1 : Int32} {x2 : Int32} {x3 : Int32} {M : Mem} {Q : Option Value → Mem → Prop}  (h : ((x1 = 0 → (vp_in x2 8 ∧ (vp_in x2 8 ∧ (∀ M3 : Mem, M3 = upI M 87 (x2.toNatClampNeg) ((M.1 87 x2.toNatClampNeg) + 1) → (vp_in x3 8 ∧ (vp_in x3 8 ∧ (∀ M6 : Mem, M6 = upI M3 87 (x3.toNatClampNeg) ((M3.1 87 x3.toNatClampNeg) + 1) → Q none M6))))))) ∧ (¬ x1 = 0 → ((x1 = 1 → (vp_in x2 8 ∧ (∀ M8 : Mem, M8 = upI M 86 (x2.toNatClampNeg) 1 → Q none M8))) ∧ (¬ x1 = 1 → ((x1 = 2 → (vp_in x2 8 ∧ (∀ M10 : Mem, M10 = upI M 86 (x2.toNatClampNeg) 0 → Q none M10))) ∧ (¬ x1 = 2 → ((x1 = 3 → (vp_in x2 8 ∧ (∀ M12 : Mem, M12 = upI M 86 (x2.toNatClampNeg) 2 → Q none M12))) ∧ (¬ x1 = 3 → Q none M))))))))) : C_X11_happen G x1 x2 x3 M Q := by
  refine wp_enter (ls0 := [some (.ref (ad G 71)), some (.int x1), some (.int x2), some (.int x3)]) (by decide +kernel) (Nat.le_of_ble_eq_true rfl) rfl ?_
  refine wp_iload_n dX11_happen_0 rfl rfl ?_
  rcases Decidable.em (x1 = 0) with n0 | n0
  · replace h := h.1 n0
    refine wp_tswI (tgt := 32) (v := 0) dX11_happen_1 n0 (by decide) (by decide) rfl (by decide) ?_
    refine wp_aload_n dX11_happen_32 rfl rfl ?_
    refine wp_getR (b := 87) dX11_happen_33 rfl rfl fb_11_26 m_4_181 ?_
    refine wp_iload_n dX11_happen_36 rfl rfl ?_
    refine wp_dup2 dX11_happen_37 rfl rfl ?_
    obtain ⟨b1, h⟩ := h
    refine wp_iald (n := 8) dX11_happen_38 rfl rfl b1 ?_
    refine wp_iconst (v := 1) dX11_happen_39 (by decide) ?_
    refine wp_iadd dX11_happen_40 ?_
    obtain ⟨b2, h⟩ := h
    refine wp_iast (n := 8) dX11_happen_41 rfl rfl b2 ?_
    refine wp_topM (fun M3 hM3 => ?_)
    replace h := h M3 hM3
    refine wp_aload_n dX11_happen_42 rfl rfl ?_
    refine wp_getR (b := 87) dX11_happen_43 rfl rfl fb_11_26 m_4_181 ?_
    refine wp_iload_n dX11_happen_46 rfl rfl ?_
    refine wp_dup2 dX11_happen_47 rfl rfl ?_
    obtain ⟨b4, h⟩ := h
    refine wp_iald (n := 8) dX11_happen_48 rfl rfl b4 ?_
    refine wp_iconst (v := 1) dX11_happen_49 (by decide) ?_
    refine wp_iadd dX11_happen_50 ?_
    obtain ⟨b5, h⟩ := h
    refine wp_iast (n := 8) dX11_happen_51 rfl rfl b5 ?_
    refine wp_topM (fun M6 hM6 => ?_)
    replace h := h M6 hM6
    refine wp_goto (tgt := 85) dX11_happen_52 (by decide) ?_
    exact wp_vret dX11_happen_85 rfl h
  · replace h := h.2 n0
    rcases Decidable.em (x1 = 1) with n1 | n1
    · replace h := h.1 n1
      refine wp_tswI (tgt := 55) (v := 1) dX11_happen_1 n1 (by decide) (by decide) rfl (by decide) ?_
      refine wp_aload_n dX11_happen_55 rfl rfl ?_
      refine wp_getR (b := 86) dX11_happen_56 rfl rfl fb_11_25 m_4_180 ?_
      refine wp_iload_n dX11_happen_59 rfl rfl ?_
      refine wp_iconst (v := 1) dX11_happen_60 (by decide) ?_
      obtain ⟨b7, h⟩ := h
      refine wp_iast (n := 8) dX11_happen_61 rfl rfl b7 ?_
      refine wp_topM (fun M8 hM8 => ?_)
      replace h := h M8 hM8
      refine wp_goto (tgt := 85) dX11_happen_62 (by decide) ?_
      exact wp_vret dX11_happen_85 rfl h
    · replace h := h.2 n1
      rcases Decidable.em (x1 = 2) with n2 | n2
      · replace h := h.1 n2
        refine wp_tswI (tgt := 65) (v := 2) dX11_happen_1 n2 (by decide) (by decide) rfl (by decide) ?_
        refine wp_aload_n dX11_happen_65 rfl rfl ?_
        refine wp_getR (b := 86) dX11_happen_66 rfl rfl fb_11_25 m_4_180 ?_
        refine wp_iload_n dX11_happen_69 rfl rfl ?_
        refine wp_iconst (v := 0) dX11_happen_70 (by decide) ?_
        obtain ⟨b9, h⟩ := h
        refine wp_iast (n := 8) dX11_happen_71 rfl rfl b9 ?_
        refine wp_topM (fun M10 hM10 => ?_)
        replace h := h M10 hM10
        refine wp_goto (tgt := 85) dX11_happen_72 (by decide) ?_
        exact wp_vret dX11_happen_85 rfl h
      · replace h := h.2 n2
        rcases Decidable.em (x1 = 3) with n3 | n3
        · replace h := h.1 n3
          refine wp_tswI (tgt := 75) (v := 3) dX11_happen_1 n3 (by decide) (by decide) rfl (by decide) ?_
          refine wp_aload_n dX11_happen_75 rfl rfl ?_
          refine wp_getR (b := 86) dX11_happen_76 rfl rfl fb_11_25 m_4_180 ?_
          refine wp_iload_n dX11_happen_79 rfl rfl ?_
          refine wp_iconst (v := 2) dX11_happen_80 (by decide) ?_
          obtain ⟨b11, h⟩ := h
          refine wp_iast (n := 8) dX11_happen_81 rfl rfl b11 ?_
          refine wp_topM (fun M12 hM12 => ?_)
          replace h := h M12 hM12
          refine wp_goto (tgt := 85) dX11_happen_82 (by decide) ?_
          exact wp_vret dX11_happen_85 rfl h
        · replace h := h.2 n3
          refine wp_tswD (tgt := 85) dX11_happen_1 (by have e0 : (x1 : Int32).toInt ≠ 0 := fun e => n0 (Int32.toInt_inj.mp e); have e1 : (x1 : Int32).toInt ≠ 1 := fun e => n1 (Int32.toInt_inj.mp e); have e2 : (x1 : Int32).toInt ≠ 2 := fun e => n2 (Int32.toInt_inj.mp e); have e3 : (x1 : Int32).toInt ≠ 3 := fun e => n3 (Int32.toInt_inj.mp e); omega) (by decide) ?_
          exact wp_vret dX11_happen_85 rfl h
abbrev P_X11_goThrough_2 (G : Glob) (x1 : Int32) (M : Mem) (Q : Option Value → Mem → Prop) : Prop := Wp G 2 Y_X11_goThrough 2 [some (.ref (ad G 71)), some (.int x1)] [] M Q
abbrev P_X11_goThrough_30 (G : Glob) (x1 : Int32) (M : Mem) (Q : Option Value → Mem → Prop) : Prop := Wp G 2 Y_X11_goThrough 30 [some (.ref (ad G 71)), some (.int x1)] [] M Q
set_option maxRecDepth 20000 in
theorem v_X11_goThrough_2 {G : Glob} {x1 : Int32} {M : Mem} {Q : Option Value → Mem → Prop}  (h : ((x1 < 8 → (vp_in x1 8 ∧ (∀ M3 : Mem, M3 = upI M 86 (x1.toNatClampNeg) 0 → (vp_in x1 8 ∧ (∀ M5 : Mem, M5 = upI M3 87 (x1.toNatClampNeg) 0 → P_X11_goThrough_2 G (x1 + 1) M5 Q))))) ∧ (¬ x1 < 8 → P_X11_goThrough_30 G 0 M Q))) : P_X11_goThrough_2 G x1 M Q := by
  refine wp_iload_n dX11_goThrough_2 rfl rfl ?_
  refine wp_bipush (v := 8) dX11_goThrough_3 (by decide) ?_
  refine wp_icmp_ge (tgt := 28) dX11_goThrough_5 (by decide) (fun c1 => ?_) (fun c1 => ?_)
  · replace h := h.2 c1
    refine wp_iconst (v := 0) dX11_goThrough_28 (by decide) ?_
    refine wp_istore_n (ls' := [some (.ref (ad G 71)), some (.int 0)]) dX11_goThrough_29 rfl (by decide) rfl rfl ?_
    exact h
  · replace h := h.1 c1
    refine wp_aload_n dX11_goThrough_8 rfl rfl ?_
    refine wp_getR (b := 86) dX11_goThrough_9 rfl rfl fb_11_25 m_4_180 ?_
    refine wp_iload_n dX11_goThrough_12 rfl rfl ?_
    refine wp_iconst (v := 0) dX11_goThrough_13 (by decide) ?_
    obtain ⟨b2, h⟩ := h
    refine wp_iast (n := 8) dX11_goThrough_14 rfl rfl b2 ?_
    refine wp_topM (fun M3 hM3 => ?_)
    replace h := h M3 hM3
    refine wp_aload_n dX11_goThrough_15 rfl rfl ?_
    refine wp_getR (b := 87) dX11_goThrough_16 rfl rfl fb_11_26 m_4_181 ?_
    refine wp_iload_n dX11_goThrough_19 rfl rfl ?_
    refine wp_iconst (v := 0) dX11_goThrough_20 (by decide) ?_
    obtain ⟨b4, h⟩ := h
    refine wp_iast (n := 8) dX11_goThrough_21 rfl rfl b4 ?_
    refine wp_topM (fun M5 hM5 => ?_)
    replace h := h M5 hM5
    refine wp_iinc (v := (x1 + 1)) (ls' := [some (.ref (ad G 71)), some (.int (x1 + 1))]) dX11_goThrough_22 rfl rfl (by decide) rfl rfl ?_
    refine wp_goto (tgt := 2) dX11_goThrough_25 (by decide) ?_
    exact h
set_option maxRecDepth 20000 in
theorem v_X11_goThrough_30 {G : Glob} {x1 : Int32} {M : Mem} {Q : Option Value → Mem → Prop}  (h : ((x1 < (M.1 71 27) → (vp_in (3 * x1) 120 ∧ (vp_in ((3 * x1) + 1) 120 ∧ (vp_in ((3 * x1) + 2) 120 ∧ (WpM G 1 Y_X11_happen [.ref (ad G 71), .int (M.1 88 (3 * x1).toNatClampNeg), .int (M.1 88 ((3 * x1) + 1).toNatClampNeg), .int (M.1 88 ((3 * x1) + 2).toNatClampNeg)] M (RV (fun M5 => P_X11_goThrough_30 G (x1 + 1) M5 Q))))))) ∧ (¬ x1 < (M.1 71 27) → Q none M))) : P_X11_goThrough_30 G x1 M Q := by
  refine wp_iload_n dX11_goThrough_30 rfl rfl ?_
  refine wp_aload_n dX11_goThrough_31 rfl rfl ?_
  refine wp_getI dX11_goThrough_32 rfl fb_11_27 m_4_182 ?_
  refine wp_icmp_ge (tgt := 76) dX11_goThrough_35 (by decide) (fun c1 => ?_) (fun c1 => ?_)
  · replace h := h.2 c1
    exact wp_vret dX11_goThrough_76 rfl h
  · replace h := h.1 c1
    refine wp_aload_n dX11_goThrough_38 rfl rfl ?_
    refine wp_aload_n dX11_goThrough_39 rfl rfl ?_
    refine wp_getR (b := 88) dX11_goThrough_40 rfl rfl fb_11_28 m_4_183 ?_
    refine wp_iconst (v := 3) dX11_goThrough_43 (by decide) ?_
    refine wp_iload_n dX11_goThrough_44 rfl rfl ?_
    refine wp_imul dX11_goThrough_45 ?_
    obtain ⟨b2, h⟩ := h
    refine wp_iald (n := 120) dX11_goThrough_46 rfl rfl b2 ?_
    refine wp_aload_n dX11_goThrough_47 rfl rfl ?_
    refine wp_getR (b := 88) dX11_goThrough_48 rfl rfl fb_11_28 m_4_183 ?_
    refine wp_iconst (v := 3) dX11_goThrough_51 (by decide) ?_
    refine wp_iload_n dX11_goThrough_52 rfl rfl ?_
    refine wp_imul dX11_goThrough_53 ?_
    refine wp_iconst (v := 1) dX11_goThrough_54 (by decide) ?_
    refine wp_iadd dX11_goThrough_55 ?_
    obtain ⟨b3, h⟩ := h
    refine wp_iald (n := 120) dX11_goThrough_56 rfl rfl b3 ?_
    refine wp_aload_n dX11_goThrough_57 rfl rfl ?_
    refine wp_getR (b := 88) dX11_goThrough_58 rfl rfl fb_11_28 m_4_183 ?_
    refine wp_iconst (v := 3) dX11_goThrough_61 (by decide) ?_
    refine wp_iload_n dX11_goThrough_62 rfl rfl ?_
    refine wp_imul dX11_goThrough_63 ?_
    refine wp_iconst (v := 2) dX11_goThrough_64 (by decide) ?_
    refine wp_iadd dX11_goThrough_65 ?_
    obtain ⟨b4, h⟩ := h
    refine wp_iald (n := 120) dX11_goThrough_66 rfl rfl b4 ?_
    refine wp_callVV (a := 71) (d1 := 1) (As := [.int (M.1 88 (3 * x1).toNatClampNeg), .int (M.1 88 ((3 * x1) + 1).toNatClampNeg), .int (M.1 88 ((3 * x1) + 2).toNatClampNeg)]) (st := []) dX11_goThrough_67 rfl cm_X11_happen m_5_113 (by decide) rfl (Nat.le_of_ble_eq_true rfl) rfl h ?_
    intro M5 h
    refine wp_iinc (v := (x1 + 1)) (ls' := [some (.ref (ad G 71)), some (.int (x1 + 1))]) dX11_goThrough_70 rfl rfl (by decide) rfl rfl ?_
    refine wp_goto (tgt := 30) dX11_goThrough_73 (by decide) ?_
    exact h
abbrev C_X11_goThrough (G : Glob)  (M : Mem) (Q : Option Value → Mem → Prop) : Prop := WpM G 2 Y_X11_goThrough [.ref (ad G 71)] M Q
set_option maxRecDepth 20000 in
theorem v_X11_goThrough {G : Glob} {M : Mem} {Q : Option Value → Mem → Prop}  (h : P_X11_goThrough_2 G 0 M Q) : C_X11_goThrough G  M Q := by
  refine wp_enter (ls0 := [some (.ref (ad G 71)), none]) (by decide +kernel) (Nat.le_of_ble_eq_true rfl) rfl ?_
  refine wp_iconst (v := 0) dX11_goThrough_0 (by decide) ?_
  refine wp_istore_n (ls' := [some (.ref (ad G 71)), some (.int 0)]) dX11_goThrough_1 rfl (by decide) rfl rfl ?_
  exact h
abbrev C_X11_does (G : Glob) (x1 : Int32) (x2 : Int32) (x3 : Int32) (M : Mem) (Q : Option Value → Mem → Prop) : Prop := WpM G 2 Y_X11_does [.ref (ad G 71), .int x1, .int x2, .int x3] M Q
set_option maxRecDepth 20000 in
theorem v_X11_does {G : Glob} {x1 : Int32} {x2 : Int32} {x3 : Int32} {M : Mem} {Q : Option Value → Mem → Prop}  (h : (vp_in (3 * (M.1 71 27)) 120 ∧ (∀ M2 : Mem, M2 = upI M 88 ((3 * (M.1 71 27)).toNatClampNeg) x1 → (vp_in ((3 * (M2.1 71 27)) + 1) 120 ∧ (∀ M4 : Mem, M4 = upI M2 88 (((3 * (M2.1 71 27)) + 1).toNatClampNeg) x2 → (vp_in ((3 * (M4.1 71 27)) + 2) 120 ∧ (∀ M6 : Mem, M6 = upI M4 88 (((3 * (M4.1 71 27)) + 2).toNatClampNeg) x3 → (∀ M7 : Mem, M7 = upI M6 71 27 ((M6.1 71 27) + 1) → (WpM G 1 Y_X11_happen [.ref (ad G 71), .int x1, .int x2, .int x3] M7 (RV (fun M8 => Q none M8))))))))))) : C_X11_does G x1 x2 x3 M Q := by
  refine wp_enter (ls0 := [some (.ref (ad G 71)), some (.int x1), some (.int x2), some (.int x3)]) (by decide +kernel) (Nat.le_of_ble_eq_true rfl) rfl ?_
  refine wp_aload_n dX11_does_0 rfl rfl ?_
  refine wp_getR (b := 88) dX11_does_1 rfl rfl fb_11_28 m_4_183 ?_
  refine wp_iconst (v := 3) dX11_does_4 (by decide) ?_
  refine wp_aload_n dX11_does_5 rfl rfl ?_
  refine wp_getI dX11_does_6 rfl fb_11_27 m_4_182 ?_
  refine wp_imul dX11_does_9 ?_
  refine wp_iload_n dX11_does_10 rfl rfl ?_
  obtain ⟨b1, h⟩ := h
  refine wp_iast (n := 120) dX11_does_11 rfl rfl b1 ?_
  refine wp_topM (fun M2 hM2 => ?_)
  replace h := h M2 hM2
  refine wp_aload_n dX11_does_12 rfl rfl ?_
  refine wp_getR (b := 88) dX11_does_13 rfl rfl fb_11_28 m_4_183 ?_
  refine wp_iconst (v := 3) dX11_does_16 (by decide) ?_
  refine wp_aload_n dX11_does_17 rfl rfl ?_
  refine wp_getI dX11_does_18 rfl fb_11_27 m_4_182 ?_
  refine wp_imul dX11_does_21 ?_
  refine wp_iconst (v := 1) dX11_does_22 (by decide) ?_
  refine wp_iadd dX11_does_23 ?_
  refine wp_iload_n dX11_does_24 rfl rfl ?_
  obtain ⟨b3, h⟩ := h
  refine wp_iast (n := 120) dX11_does_25 rfl rfl b3 ?_
  refine wp_topM (fun M4 hM4 => ?_)
  replace h := h M4 hM4
  refine wp_aload_n dX11_does_26 rfl rfl ?_
  refine wp_getR (b := 88) dX11_does_27 rfl rfl fb_11_28 m_4_183 ?_
  refine wp_iconst (v := 3) dX11_does_30 (by decide) ?_
  refine wp_aload_n dX11_does_31 rfl rfl ?_
  refine wp_getI dX11_does_32 rfl fb_11_27 m_4_182 ?_
  refine wp_imul dX11_does_35 ?_
  refine wp_iconst (v := 2) dX11_does_36 (by decide) ?_
  refine wp_iadd dX11_does_37 ?_
  refine wp_iload_n dX11_does_38 rfl rfl ?_
  obtain ⟨b5, h⟩ := h
  refine wp_iast (n := 120) dX11_does_39 rfl rfl b5 ?_
  refine wp_topM (fun M6 hM6 => ?_)
  replace h := h M6 hM6
  refine wp_aload_n dX11_does_40 rfl rfl ?_
  refine wp_dup dX11_does_41 rfl ?_
  refine wp_getI dX11_does_42 rfl fb_11_27 m_4_182 ?_
  refine wp_iconst (v := 1) dX11_does_45 (by decide) ?_
  refine wp_iadd dX11_does_46 ?_
  refine wp_putI dX11_does_47 rfl fp_11_27 m_4_182 ?_
  refine wp_topM (fun M7 hM7 => ?_)
  replace h := h M7 hM7
  refine wp_aload_n dX11_does_50 rfl rfl ?_
  refine wp_iload_n dX11_does_51 rfl rfl ?_
  refine wp_iload_n dX11_does_52 rfl rfl ?_
  refine wp_iload_n dX11_does_53 rfl rfl ?_
  refine wp_callVV (a := 71) (d1 := 1) (As := [.int x1, .int x2, .int x3]) (st := []) dX11_does_54 rfl cm_X11_happen m_5_113 (by decide) rfl (Nat.le_of_ble_eq_true rfl) rfl h ?_
  intro M8 h
  exact wp_vret dX11_does_57 rfl h
abbrev C_X11_ofGlove (G : Glob) (x1 : Int32) (x2 : Int32) (M : Mem) (Q : Option Value → Mem → Prop) : Prop := WpM G 2 Y_X11_ofGlove [.ref (ad G 71), .int x1, .int x2] M Q
set_option maxRecDepth 20000 in
theorem v_X11_ofGlove {G : Glob} {x1 : Int32} {x2 : Int32} {M : Mem} {Q : Option Value → Mem → Prop}  (h : ((x2 = 0 → (vp_in x1 8 ∧ Q (some (.int (M.1 82 x1.toNatClampNeg))) M)) ∧ (¬ x2 = 0 → ((x2 = 1 → (vp_in x1 8 ∧ Q (some (.int (M.1 83 x1.toNatClampNeg))) M)) ∧ (¬ x2 = 1 → ((x2 = 2 → (vp_in x1 8 ∧ Q (some (.int (M.1 84 x1.toNatClampNeg))) M)) ∧ (¬ x2 = 2 → ((x2 = 3 → (vp_in x1 8 ∧ Q (some (.int (M.1 85 x1.toNatClampNeg))) M)) ∧ (¬ x2 = 3 → ((x2 = 4 → (vp_in x1 8 ∧ Q (some (.int (M.1 87 x1.toNatClampNeg))) M)) ∧ (¬ x2 = 4 → ((x2 = 5 → (vp_in x1 8 ∧ (WpM G 1 Y_X11_warmthAs [.ref (ad G 71), .int (M.1 82 x1.toNatClampNeg), .int x1] M (RI (fun r8 M7 => Q (some (.int r8)) M7))))) ∧ (¬ x2 = 5 → (vp_in x1 8 ∧ Q (some (.int (M.1 86 x1.toNatClampNeg))) M)))))))))))))) : C_X11_ofGlove G x1 x2 M Q := by
  refine wp_enter (ls0 := [some (.ref (ad G 71)), some (.int x1), some (.int x2)]) (by decide +kernel) (Nat.le_of_ble_eq_true rfl) rfl ?_
  refine wp_iload_n dX11_ofGlove_0 rfl rfl ?_
  rcases Decidable.em (x2 = 0) with n0 | n0
  · replace h := h.1 n0
    refine wp_tswI (tgt := 40) (v := 0) dX11_ofGlove_1 n0 (by decide) (by decide) rfl (by decide) ?_
    refine wp_aload_n dX11_ofGlove_40 rfl rfl ?_
    refine wp_getR (b := 82) dX11_ofGlove_41 rfl rfl fb_11_21 m_4_176 ?_
    refine wp_iload_n dX11_ofGlove_44 rfl rfl ?_
    obtain ⟨b1, h⟩ := h
    refine wp_iald (n := 8) dX11_ofGlove_45 rfl rfl b1 ?_
    exact wp_iret (ty := .int) dX11_ofGlove_46 rfl rfl h
  · replace h := h.2 n0
    rcases Decidable.em (x2 = 1) with n1 | n1
    · replace h := h.1 n1
      refine wp_tswI (tgt := 47) (v := 1) dX11_ofGlove_1 n1 (by decide) (by decide) rfl (by decide) ?_
      refine wp_aload_n dX11_ofGlove_47 rfl rfl ?_
      refine wp_getR (b := 83) dX11_ofGlove_48 rfl rfl fb_11_22 m_4_177 ?_
      refine wp_iload_n dX11_ofGlove_51 rfl rfl ?_
      obtain ⟨b2, h⟩ := h
      refine wp_iald (n := 8) dX11_ofGlove_52 rfl rfl b2 ?_
      exact wp_iret (ty := .int) dX11_ofGlove_53 rfl rfl h
    · replace h := h.2 n1
      rcases Decidable.em (x2 = 2) with n2 | n2
      · replace h := h.1 n2
        refine wp_tswI (tgt := 54) (v := 2) dX11_ofGlove_1 n2 (by decide) (by decide) rfl (by decide) ?_
        refine wp_aload_n dX11_ofGlove_54 rfl rfl ?_
        refine wp_getR (b := 84) dX11_ofGlove_55 rfl rfl fb_11_23 m_4_178 ?_
        refine wp_iload_n dX11_ofGlove_58 rfl rfl ?_
        obtain ⟨b3, h⟩ := h
        refine wp_iald (n := 8) dX11_ofGlove_59 rfl rfl b3 ?_
        exact wp_iret (ty := .int) dX11_ofGlove_60 rfl rfl h
      · replace h := h.2 n2
        rcases Decidable.em (x2 = 3) with n3 | n3
        · replace h := h.1 n3
          refine wp_tswI (tgt := 61) (v := 3) dX11_ofGlove_1 n3 (by decide) (by decide) rfl (by decide) ?_
          refine wp_aload_n dX11_ofGlove_61 rfl rfl ?_
          refine wp_getR (b := 85) dX11_ofGlove_62 rfl rfl fb_11_24 m_4_179 ?_
          refine wp_iload_n dX11_ofGlove_65 rfl rfl ?_
          obtain ⟨b4, h⟩ := h
          refine wp_iald (n := 8) dX11_ofGlove_66 rfl rfl b4 ?_
          exact wp_iret (ty := .int) dX11_ofGlove_67 rfl rfl h
        · replace h := h.2 n3
          rcases Decidable.em (x2 = 4) with n4 | n4
          · replace h := h.1 n4
            refine wp_tswI (tgt := 68) (v := 4) dX11_ofGlove_1 n4 (by decide) (by decide) rfl (by decide) ?_
            refine wp_aload_n dX11_ofGlove_68 rfl rfl ?_
            refine wp_getR (b := 87) dX11_ofGlove_69 rfl rfl fb_11_26 m_4_181 ?_
            refine wp_iload_n dX11_ofGlove_72 rfl rfl ?_
            obtain ⟨b5, h⟩ := h
            refine wp_iald (n := 8) dX11_ofGlove_73 rfl rfl b5 ?_
            exact wp_iret (ty := .int) dX11_ofGlove_74 rfl rfl h
          · replace h := h.2 n4
            rcases Decidable.em (x2 = 5) with n5 | n5
            · replace h := h.1 n5
              refine wp_tswI (tgt := 75) (v := 5) dX11_ofGlove_1 n5 (by decide) (by decide) rfl (by decide) ?_
              refine wp_aload_n dX11_ofGlove_75 rfl rfl ?_
              refine wp_aload_n dX11_ofGlove_76 rfl rfl ?_
              refine wp_getR (b := 82) dX11_ofGlove_77 rfl rfl fb_11_21 m_4_176 ?_
              refine wp_iload_n dX11_ofGlove_80 rfl rfl ?_
              obtain ⟨b6, h⟩ := h
              refine wp_iald (n := 8) dX11_ofGlove_81 rfl rfl b6 ?_
              refine wp_iload_n dX11_ofGlove_82 rfl rfl ?_
              refine wp_callVI (a := 71) (d1 := 1) (As := [.int (M.1 82 x1.toNatClampNeg), .int x1]) (st := []) dX11_ofGlove_83 rfl cm_X11_warmthAs m_5_129 (by decide) rfl (Nat.le_of_ble_eq_true rfl) rfl h ?_
              intro r8 M7 h
              exact wp_iret (ty := .int) dX11_ofGlove_86 rfl rfl h
            · replace h := h.2 n5
              refine wp_tswD (tgt := 87) dX11_ofGlove_1 (by have e0 : (x2 : Int32).toInt ≠ 0 := fun e => n0 (Int32.toInt_inj.mp e); have e1 : (x2 : Int32).toInt ≠ 1 := fun e => n1 (Int32.toInt_inj.mp e); have e2 : (x2 : Int32).toInt ≠ 2 := fun e => n2 (Int32.toInt_inj.mp e); have e3 : (x2 : Int32).toInt ≠ 3 := fun e => n3 (Int32.toInt_inj.mp e); have e4 : (x2 : Int32).toInt ≠ 4 := fun e => n4 (Int32.toInt_inj.mp e); have e5 : (x2 : Int32).toInt ≠ 5 := fun e => n5 (Int32.toInt_inj.mp e); omega) (by decide) ?_
              refine wp_aload_n dX11_ofGlove_87 rfl rfl ?_
              refine wp_getR (b := 86) dX11_ofGlove_88 rfl rfl fb_11_25 m_4_180 ?_
              refine wp_iload_n dX11_ofGlove_91 rfl rfl ?_
              obtain ⟨b9, h⟩ := h
              refine wp_iald (n := 8) dX11_ofGlove_92 rfl rfl b9 ?_
              exact wp_iret (ty := .int) dX11_ofGlove_93 rfl rfl h
abbrev C_X11_glove (G : Glob) (x1 : Int32) (x2 : Int32) (M : Mem) (Q : Option Value → Mem → Prop) : Prop := WpM G 3 Y_X11_glove [.ref (ad G 71), .int x1, .int x2] M Q
set_option maxRecDepth 20000 in
theorem v_X11_glove {G : Glob} {x1 : Int32} {x2 : Int32} {M : Mem} {Q : Option Value → Mem → Prop}  (h : (WpM G 2 Y_X11_isGlove [.ref (ad G 71), .int x1] M (RI (fun r2 M1 => ((r2 = 0 → Q (some (.int (-1 : Int32))) M1) ∧ (¬ r2 = 0 → (WpM G 1 Y_X11_in [.int x2, .int 0, .int 6] M1 (RI (fun r5 M4 => ((r5 = 0 → Q (some (.int (-1 : Int32))) M4) ∧ (¬ r5 = 0 → (WpM G 2 Y_X11_ofGlove [.ref (ad G 71), .int x1, .int x2] M4 (RI (fun r8 M7 => (WpM G 1 Y_X11_tellsAsked [.ref (ad G 71), .int r8] M7 (RI (fun r10 M9 => Q (some (.int r10)) M9))))))))))))))))) : C_X11_glove G x1 x2 M Q := by
  refine wp_enter (ls0 := [some (.ref (ad G 71)), some (.int x1), some (.int x2)]) (by decide +kernel) (Nat.le_of_ble_eq_true rfl) rfl ?_
  refine wp_aload_n dX11_glove_0 rfl rfl ?_
  refine wp_iload_n dX11_glove_1 rfl rfl ?_
  refine wp_callVI (a := 71) (d1 := 2) (As := [.int x1]) (st := []) dX11_glove_2 rfl cm_X11_isGlove m_5_121 (by decide) rfl (Nat.le_of_ble_eq_true rfl) rfl h ?_
  intro r2 M1 h
  refine wp_if_eq (tgt := 31) dX11_glove_5 (by decide) (fun c3 => ?_) (fun c3 => ?_)
  · replace h := h.1 c3
    refine wp_iconst (v := (-1 : Int32)) dX11_glove_31 (by decide) ?_
    exact wp_iret (ty := .int) dX11_glove_32 rfl rfl h
  · replace h := h.2 c3
    refine wp_iload_n dX11_glove_8 rfl rfl ?_
    refine wp_iconst (v := 0) dX11_glove_9 (by decide) ?_
    refine wp_bipush (v := 6) dX11_glove_10 (by decide) ?_
    refine wp_callSI (d1 := 1) (As := [.int x2, .int 0, .int 6]) (st := []) dX11_glove_12 cm_X11_in m_5_32 (by decide) rfl (Nat.le_of_ble_eq_true rfl) rfl h ?_
    intro r5 M4 h
    refine wp_if_eq (tgt := 31) dX11_glove_15 (by decide) (fun c6 => ?_) (fun c6 => ?_)
    · replace h := h.1 c6
      refine wp_iconst (v := (-1 : Int32)) dX11_glove_31 (by decide) ?_
      exact wp_iret (ty := .int) dX11_glove_32 rfl rfl h
    · replace h := h.2 c6
      refine wp_aload_n dX11_glove_18 rfl rfl ?_
      refine wp_aload_n dX11_glove_19 rfl rfl ?_
      refine wp_iload_n dX11_glove_20 rfl rfl ?_
      refine wp_iload_n dX11_glove_21 rfl rfl ?_
      refine wp_callVI (a := 71) (d1 := 2) (As := [.int x1, .int x2]) (st := [.ref (ad G 71)]) dX11_glove_22 rfl cm_X11_ofGlove m_5_125 (by decide) rfl (Nat.le_of_ble_eq_true rfl) rfl h ?_
      intro r8 M7 h
      refine wp_callVI (a := 71) (d1 := 1) (As := [.int r8]) (st := []) dX11_glove_25 rfl cm_X11_tellsAsked m_5_47 (by decide) rfl (Nat.le_of_ble_eq_true rfl) rfl h ?_
      intro r10 M9 h
      refine wp_goto (tgt := 32) dX11_glove_28 (by decide) ?_
      exact wp_iret (ty := .int) dX11_glove_32 rfl rfl h
abbrev P_X11_mark_115 (G : Glob) (x1 : Int32) (x2 : Int32) (x3 : Int32) (x4 : Int32) (M : Mem) (Q : Option Value → Mem → Prop) : Prop := Wp G 5 Y_X11_mark 115 [some (.ref (ad G 71)), some (.int x1), some (.int x2), some (.int x3), some (.int x4), none] [] M Q
set_option maxRecDepth 20000 in
theorem v_X11_mark_115 {G : Glob} {x1 : Int32} {x2 : Int32} {x3 : Int32} {x4 : Int32} {M : Mem} {Q : Option Value → Mem → Prop}  (h : ((x4 < (M.1 71 20) → ((x4 = x1 → P_X11_mark_115 G x1 x2 x3 (x4 + 1) M Q) ∧ (¬ x4 = x1 → (vp_in x4 8 ∧ (((M.1 86 x4.toNatClampNeg) = 0 → (WpM G 4 Y_X11_pairOf [.ref (ad G 71), .int x1, .int x4] M (RI (fun r6 M5 => ((x2 = 3 → (vp_in x4 8 ∧ (vp_in x1 8 ∧ (((M5.1 83 x4.toNatClampNeg) = (M5.1 83 x1.toNatClampNeg) → P_X11_mark_115 G x1 x2 (x3 + 1) (x4 + 1) M5 Q) ∧ (¬ (M5.1 83 x4.toNatClampNeg) = (M5.1 83 x1.toNatClampNeg) → P_X11_mark_115 G x1 x2 (x3 + 0) (x4 + 1) M5 Q))))) ∧ (¬ x2 = 3 → ((r6 = (-9 : Int32) → P_X11_mark_115 G x1 x2 (x3 + 0) (x4 + 1) M5 Q) ∧ (¬ r6 = (-9 : Int32) → ((x2 = 2 → P_X11_mark_115 G x1 x2 (x3 + 1) (x4 + 1) M5 Q) ∧ (¬ x2 = 2 → (vp_in x1 8 ∧ (vp_in x1 8 ∧ (WpM G 3 Y_X11_pairAs [.ref (ad G 71), .int x1, .int 2, .int (M5.1 83 x1.toNatClampNeg), .int (M5.1 84 x1.toNatClampNeg), .int x4] M5 (RI (fun r13 M12 => P_X11_mark_115 G x1 x2 (x3 + (r6 - r13)) (x4 + 1) M12 Q))))))))))))))) ∧ (¬ (M.1 86 x4.toNatClampNeg) = 0 → P_X11_mark_115 G x1 x2 x3 (x4 + 1) M Q)))))) ∧ (¬ x4 < (M.1 71 20) → Q (some (.int x3)) M))) : P_X11_mark_115 G x1 x2 x3 x4 M Q := by
  refine wp_iload dX11_mark_115 rfl ?_
  refine wp_aload_n dX11_mark_117 rfl rfl ?_
  refine wp_getI dX11_mark_118 rfl fb_11_20 m_4_175 ?_
  refine wp_icmp_ge (tgt := 230) dX11_mark_121 (by decide) (fun c1 => ?_) (fun c1 => ?_)
  · replace h := h.2 c1
    refine wp_iload_n dX11_mark_230 rfl rfl ?_
    exact wp_iret (ty := .int) dX11_mark_231 rfl rfl h
  · replace h := h.1 c1
    refine wp_iload dX11_mark_124 rfl ?_
    refine wp_iload_n dX11_mark_126 rfl rfl ?_
    refine wp_icmp_eq (tgt := 224) dX11_mark_127 (by decide) (fun c2 => ?_) (fun c2 => ?_)
    · replace h := h.1 c2
      refine wp_iinc (v := (x4 + 1)) (ls' := [some (.ref (ad G 71)), some (.int x1), some (.int x2), some (.int x3), some (.int (x4 + 1)), none]) dX11_mark_224 rfl rfl (by decide) rfl rfl ?_
      refine wp_goto (tgt := 115) dX11_mark_227 (by decide) ?_
      exact h
    · replace h := h.2 c2
      refine wp_aload_n dX11_mark_130 rfl rfl ?_
      refine wp_getR (b := 86) dX11_mark_131 rfl rfl fb_11_25 m_4_180 ?_
      refine wp_iload dX11_mark_134 rfl ?_
      obtain ⟨b3, h⟩ := h
      refine wp_iald (n := 8) dX11_mark_136 rfl rfl b3 ?_
      refine wp_if_ne (tgt := 224) dX11_mark_137 (by decide) (fun c4 => ?_) (fun c4 => ?_)
      · replace h := h.2 c4
        refine wp_iinc (v := (x4 + 1)) (ls' := [some (.ref (ad G 71)), some (.int x1), some (.int x2), some (.int x3), some (.int (x4 + 1)), none]) dX11_mark_224 rfl rfl (by decide) rfl rfl ?_
        refine wp_goto (tgt := 115) dX11_mark_227 (by decide) ?_
        exact h
      · replace h := h.1 c4
        refine wp_aload_n dX11_mark_140 rfl rfl ?_
        refine wp_iload_n dX11_mark_141 rfl rfl ?_
        refine wp_iload dX11_mark_142 rfl ?_
        refine wp_callVI (a := 71) (d1 := 4) (As := [.int x1, .int x4]) (st := []) dX11_mark_144 rfl cm_X11_pairOf m_5_140 (by decide) rfl (Nat.le_of_ble_eq_true rfl) rfl h ?_
        intro r6 M5 h
        refine wp_istore (ls' := [some (.ref (ad G 71)), some (.int x1), some (.int x2), some (.int x3), some (.int x4), some (.int r6)]) dX11_mark_147 (by decide) rfl rfl ?_
        refine wp_iload_n dX11_mark_149 rfl rfl ?_
        refine wp_iload_n dX11_mark_150 rfl rfl ?_
        refine wp_iconst (v := 3) dX11_mark_151 (by decide) ?_
        refine wp_icmp_ne (tgt := 179) dX11_mark_152 (by decide) (fun c7 => ?_) (fun c7 => ?_)
        · replace h := h.2 c7
          refine wp_iload dX11_mark_179 rfl ?_
          refine wp_bipush (v := (-9 : Int32)) dX11_mark_181 (by decide) ?_
          refine wp_icmp_ne (tgt := 190) dX11_mark_183 (by decide) (fun c8 => ?_) (fun c8 => ?_)
          · replace h := h.2 c8
            refine wp_iload_n dX11_mark_190 rfl rfl ?_
            refine wp_iconst (v := 2) dX11_mark_191 (by decide) ?_
            refine wp_icmp_ne (tgt := 199) dX11_mark_192 (by decide) (fun c9 => ?_) (fun c9 => ?_)
            · replace h := h.2 c9
              refine wp_iload dX11_mark_199 rfl ?_
              refine wp_aload_n dX11_mark_201 rfl rfl ?_
              refine wp_iload_n dX11_mark_202 rfl rfl ?_
              refine wp_iconst (v := 2) dX11_mark_203 (by decide) ?_
              refine wp_aload_n dX11_mark_204 rfl rfl ?_
              refine wp_getR (b := 83) dX11_mark_205 rfl rfl fb_11_22 m_4_177 ?_
              refine wp_iload_n dX11_mark_208 rfl rfl ?_
              obtain ⟨b10, h⟩ := h
              refine wp_iald (n := 8) dX11_mark_209 rfl rfl b10 ?_
              refine wp_aload_n dX11_mark_210 rfl rfl ?_
              refine wp_getR (b := 84) dX11_mark_211 rfl rfl fb_11_23 m_4_178 ?_
              refine wp_iload_n dX11_mark_214 rfl rfl ?_
              obtain ⟨b11, h⟩ := h
              refine wp_iald (n := 8) dX11_mark_215 rfl rfl b11 ?_
              refine wp_iload dX11_mark_216 rfl ?_
              refine wp_callVI (a := 71) (d1 := 3) (As := [.int x1, .int 2, .int (M5.1 83 x1.toNatClampNeg), .int (M5.1 84 x1.toNatClampNeg), .int x4]) (st := [.int r6, .int x3]) dX11_mark_218 rfl cm_X11_pairAs m_5_144 (by decide) rfl (Nat.le_of_ble_eq_true rfl) rfl h ?_
              intro r13 M12 h
              refine wp_isub dX11_mark_221 ?_
              refine wp_iadd dX11_mark_222 ?_
              refine wp_istore_n (ls' := [some (.ref (ad G 71)), some (.int x1), some (.int x2), some (.int (x3 + (r6 - r13))), some (.int x4), some (.int r6)]) dX11_mark_223 rfl (by decide) rfl rfl ?_
              refine wp_iinc (v := (x4 + 1)) (ls' := [some (.ref (ad G 71)), some (.int x1), some (.int x2), some (.int (x3 + (r6 - r13))), some (.int (x4 + 1)), some (.int r6)]) dX11_mark_224 rfl rfl (by decide) rfl rfl ?_
              refine wp_goto (tgt := 115) dX11_mark_227 (by decide) ?_
              exact wp_mask [true, true, true, true, true, false] rfl h
            · replace h := h.1 c9
              refine wp_iconst (v := 1) dX11_mark_195 (by decide) ?_
              refine wp_goto (tgt := 222) dX11_mark_196 (by decide) ?_
              refine wp_iadd dX11_mark_222 ?_
              refine wp_istore_n (ls' := [some (.ref (ad G 71)), some (.int x1), some (.int x2), some (.int (x3 + 1)), some (.int x4), some (.int r6)]) dX11_mark_223 rfl (by decide) rfl rfl ?_
              refine wp_iinc (v := (x4 + 1)) (ls' := [some (.ref (ad G 71)), some (.int x1), some (.int x2), some (.int (x3 + 1)), some (.int (x4 + 1)), some (.int r6)]) dX11_mark_224 rfl rfl (by decide) rfl rfl ?_
              refine wp_goto (tgt := 115) dX11_mark_227 (by decide) ?_
              exact wp_mask [true, true, true, true, true, false] rfl h
          · replace h := h.1 c8
            refine wp_iconst (v := 0) dX11_mark_186 (by decide) ?_
            refine wp_goto (tgt := 222) dX11_mark_187 (by decide) ?_
            refine wp_iadd dX11_mark_222 ?_
            refine wp_istore_n (ls' := [some (.ref (ad G 71)), some (.int x1), some (.int x2), some (.int (x3 + 0)), some (.int x4), some (.int r6)]) dX11_mark_223 rfl (by decide) rfl rfl ?_
            refine wp_iinc (v := (x4 + 1)) (ls' := [some (.ref (ad G 71)), some (.int x1), some (.int x2), some (.int (x3 + 0)), some (.int (x4 + 1)), some (.int r6)]) dX11_mark_224 rfl rfl (by decide) rfl rfl ?_
            refine wp_goto (tgt := 115) dX11_mark_227 (by decide) ?_
            exact wp_mask [true, true, true, true, true, false] rfl h
        · replace h := h.1 c7
          refine wp_aload_n dX11_mark_155 rfl rfl ?_
          refine wp_getR (b := 83) dX11_mark_156 rfl rfl fb_11_22 m_4_177 ?_
          refine wp_iload dX11_mark_159 rfl ?_
          obtain ⟨b14, h⟩ := h
          refine wp_iald (n := 8) dX11_mark_161 rfl rfl b14 ?_
          refine wp_aload_n dX11_mark_162 rfl rfl ?_
          refine wp_getR (b := 83) dX11_mark_163 rfl rfl fb_11_22 m_4_177 ?_
          refine wp_iload_n dX11_mark_166 rfl rfl ?_
          obtain ⟨b15, h⟩ := h
          refine wp_iald (n := 8) dX11_mark_167 rfl rfl b15 ?_
          refine wp_icmp_ne (tgt := 175) dX11_mark_168 (by decide) (fun c16 => ?_) (fun c16 => ?_)
          · replace h := h.2 c16
            refine wp_iconst (v := 0) dX11_mark_175 (by decide) ?_
            refine wp_goto (tgt := 222) dX11_mark_176 (by decide) ?_
            refine wp_iadd dX11_mark_222 ?_
            refine wp_istore_n (ls' := [some (.ref (ad G 71)), some (.int x1), some (.int x2), some (.int (x3 + 0)), some (.int x4), some (.int r6)]) dX11_mark_223 rfl (by decide) rfl rfl ?_
            refine wp_iinc (v := (x4 + 1)) (ls' := [some (.ref (ad G 71)), some (.int x1), some (.int x2), some (.int (x3 + 0)), some (.int (x4 + 1)), some (.int r6)]) dX11_mark_224 rfl rfl (by decide) rfl rfl ?_
            refine wp_goto (tgt := 115) dX11_mark_227 (by decide) ?_
            exact wp_mask [true, true, true, true, true, false] rfl h
          · replace h := h.1 c16
            refine wp_iconst (v := 1) dX11_mark_171 (by decide) ?_
            refine wp_goto (tgt := 222) dX11_mark_172 (by decide) ?_
            refine wp_iadd dX11_mark_222 ?_
            refine wp_istore_n (ls' := [some (.ref (ad G 71)), some (.int x1), some (.int x2), some (.int (x3 + 1)), some (.int x4), some (.int r6)]) dX11_mark_223 rfl (by decide) rfl rfl ?_
            refine wp_iinc (v := (x4 + 1)) (ls' := [some (.ref (ad G 71)), some (.int x1), some (.int x2), some (.int (x3 + 1)), some (.int (x4 + 1)), some (.int r6)]) dX11_mark_224 rfl rfl (by decide) rfl rfl ?_
            refine wp_goto (tgt := 115) dX11_mark_227 (by decide) ?_
            exact wp_mask [true, true, true, true, true, false] rfl h
abbrev C_X11_mark (G : Glob) (x1 : Int32) (x2 : Int32) (M : Mem) (Q : Option Value → Mem → Prop) : Prop := WpM G 5 Y_X11_mark [.ref (ad G 71), .int x1, .int x2] M Q
set_option maxRecDepth 20000 in
theorem v_X11_mark {G : Glob} {x1 : Int32} {x2 : Int32} {M : Mem} {Q : Option Value → Mem → Prop}  (h : (WpM G 2 Y_X11_isGlove [.ref (ad G 71), .int x1] M (RI (fun r2 M1 => ((r2 = 0 → Q (some (.int (-1 : Int32))) M1) ∧ (¬ r2 = 0 → (WpM G 1 Y_X11_in [.int x2, .int 1, .int 5] M1 (RI (fun r5 M4 => ((r5 = 0 → Q (some (.int (-1 : Int32))) M4) ∧ (¬ r5 = 0 → (vp_in x1 8 ∧ (WpM G 1 Y_X11_isOf [.int (M4.1 82 x1.toNatClampNeg), .int x2] M4 (RI (fun r9 M8 => ((r9 = 0 → (WpM G 1 Y_X11_refuse [.ref (ad G 71), .int 3] M8 (RI (fun r20 M19 => Q (some (.int r20)) M19)))) ∧ (¬ r9 = 0 → ((x2 = 1 → (vp_in x1 8 ∧ (WpM G 1 Y_X11_warmthAs [.ref (ad G 71), .int (M8.1 82 x1.toNatClampNeg), .int x1] M8 (RI (fun r13 M12 => (WpM G 1 Y_X11_warmthAs [.ref (ad G 71), .int 0, .int x1] M12 (RI (fun r15 M14 => Q (some (.int (r13 - r15))) M14)))))))) ∧ (¬ x2 = 1 → ((x2 = 4 → (vp_in x1 8 ∧ (((M8.1 87 x1.toNatClampNeg) < 6 → (vp_in x1 8 ∧ Q (some (.int (6 - (M8.1 87 x1.toNatClampNeg)))) M8)) ∧ (¬ (M8.1 87 x1.toNatClampNeg) < 6 → Q (some (.int 0)) M8)))) ∧ (¬ x2 = 4 → P_X11_mark_115 G x1 x2 0 0 M8 Q))))))))))))))))))))) : C_X11_mark G x1 x2 M Q := by
  refine wp_enter (ls0 := [some (.ref (ad G 71)), some (.int x1), some (.int x2), none, none, none]) (by decide +kernel) (Nat.le_of_ble_eq_true rfl) rfl ?_
  refine wp_aload_n dX11_mark_0 rfl rfl ?_
  refine wp_iload_n dX11_mark_1 rfl rfl ?_
  refine wp_callVI (a := 71) (d1 := 2) (As := [.int x1]) (st := []) dX11_mark_2 rfl cm_X11_isGlove m_5_121 (by decide) rfl (Nat.le_of_ble_eq_true rfl) rfl h ?_
  intro r2 M1 h
  refine wp_if_eq (tgt := 17) dX11_mark_5 (by decide) (fun c3 => ?_) (fun c3 => ?_)
  · replace h := h.1 c3
    refine wp_iconst (v := (-1 : Int32)) dX11_mark_17 (by decide) ?_
    exact wp_iret (ty := .int) dX11_mark_18 rfl rfl h
  · replace h := h.2 c3
    refine wp_iload_n dX11_mark_8 rfl rfl ?_
    refine wp_iconst (v := 1) dX11_mark_9 (by decide) ?_
    refine wp_iconst (v := 5) dX11_mark_10 (by decide) ?_
    refine wp_callSI (d1 := 1) (As := [.int x2, .int 1, .int 5]) (st := []) dX11_mark_11 cm_X11_in m_5_32 (by decide) rfl (Nat.le_of_ble_eq_true rfl) rfl h ?_
    intro r5 M4 h
    refine wp_if_ne (tgt := 19) dX11_mark_14 (by decide) (fun c6 => ?_) (fun c6 => ?_)
    · replace h := h.2 c6
      refine wp_aload_n dX11_mark_19 rfl rfl ?_
      refine wp_getR (b := 82) dX11_mark_20 rfl rfl fb_11_21 m_4_176 ?_
      refine wp_iload_n dX11_mark_23 rfl rfl ?_
      obtain ⟨b7, h⟩ := h
      refine wp_iald (n := 8) dX11_mark_24 rfl rfl b7 ?_
      refine wp_iload_n dX11_mark_25 rfl rfl ?_
      refine wp_callSI (d1 := 1) (As := [.int (M4.1 82 x1.toNatClampNeg), .int x2]) (st := []) dX11_mark_26 cm_X11_isOf m_5_137 (by decide) rfl (Nat.le_of_ble_eq_true rfl) rfl h ?_
      intro r9 M8 h
      refine wp_if_ne (tgt := 38) dX11_mark_29 (by decide) (fun c10 => ?_) (fun c10 => ?_)
      · replace h := h.2 c10
        refine wp_iconst (v := 0) dX11_mark_38 (by decide) ?_
        refine wp_istore_n (ls' := [some (.ref (ad G 71)), some (.int x1), some (.int x2), some (.int 0), none, none]) dX11_mark_39 rfl (by decide) rfl rfl ?_
        refine wp_iload_n dX11_mark_40 rfl rfl ?_
        rcases Decidable.em (x2 = 1) with n0 | n0
        · replace h := h.1 n0
          refine wp_lsw (tgt := 68) dX11_mark_41 (by decide) (by rw [n0] <;> rfl) (by decide) ?_
          refine wp_aload_n dX11_mark_68 rfl rfl ?_
          refine wp_aload_n dX11_mark_69 rfl rfl ?_
          refine wp_getR (b := 82) dX11_mark_70 rfl rfl fb_11_21 m_4_176 ?_
          refine wp_iload_n dX11_mark_73 rfl rfl ?_
          obtain ⟨b11, h⟩ := h
          refine wp_iald (n := 8) dX11_mark_74 rfl rfl b11 ?_
          refine wp_iload_n dX11_mark_75 rfl rfl ?_
          refine wp_callVI (a := 71) (d1 := 1) (As := [.int (M8.1 82 x1.toNatClampNeg), .int x1]) (st := []) dX11_mark_76 rfl cm_X11_warmthAs m_5_129 (by decide) rfl (Nat.le_of_ble_eq_true rfl) rfl h ?_
          intro r13 M12 h
          refine wp_aload_n dX11_mark_79 rfl rfl ?_
          refine wp_iconst (v := 0) dX11_mark_80 (by decide) ?_
          refine wp_iload_n dX11_mark_81 rfl rfl ?_
          refine wp_callVI (a := 71) (d1 := 1) (As := [.int 0, .int x1]) (st := [.int r13]) dX11_mark_82 rfl cm_X11_warmthAs m_5_129 (by decide) rfl (Nat.le_of_ble_eq_true rfl) rfl h ?_
          intro r15 M14 h
          refine wp_isub dX11_mark_85 ?_
          exact wp_iret (ty := .int) dX11_mark_86 rfl rfl h
        · replace h := h.2 n0
          rcases Decidable.em (x2 = 4) with n1 | n1
          · replace h := h.1 n1
            refine wp_lsw (tgt := 87) dX11_mark_41 (by decide) (by rw [n1] <;> rfl) (by decide) ?_
            refine wp_aload_n dX11_mark_87 rfl rfl ?_
            refine wp_getR (b := 87) dX11_mark_88 rfl rfl fb_11_26 m_4_181 ?_
            refine wp_iload_n dX11_mark_91 rfl rfl ?_
            obtain ⟨b16, h⟩ := h
            refine wp_iald (n := 8) dX11_mark_92 rfl rfl b16 ?_
            refine wp_bipush (v := 6) dX11_mark_93 (by decide) ?_
            refine wp_icmp_ge (tgt := 110) dX11_mark_95 (by decide) (fun c17 => ?_) (fun c17 => ?_)
            · replace h := h.2 c17
              refine wp_iconst (v := 0) dX11_mark_110 (by decide) ?_
              exact wp_iret (ty := .int) dX11_mark_111 rfl rfl h
            · replace h := h.1 c17
              refine wp_bipush (v := 6) dX11_mark_98 (by decide) ?_
              refine wp_aload_n dX11_mark_100 rfl rfl ?_
              refine wp_getR (b := 87) dX11_mark_101 rfl rfl fb_11_26 m_4_181 ?_
              refine wp_iload_n dX11_mark_104 rfl rfl ?_
              obtain ⟨b18, h⟩ := h
              refine wp_iald (n := 8) dX11_mark_105 rfl rfl b18 ?_
              refine wp_isub dX11_mark_106 ?_
              refine wp_goto (tgt := 111) dX11_mark_107 (by decide) ?_
              exact wp_iret (ty := .int) dX11_mark_111 rfl rfl h
          · replace h := h.2 n1
            refine wp_lsw (tgt := 112) dX11_mark_41 (by decide) (by have e0 : (x2 : Int32).toInt ≠ 1 := fun e => n0 (Int32.toInt_inj.mp e); have e1 : (x2 : Int32).toInt ≠ 4 := fun e => n1 (Int32.toInt_inj.mp e); show Op.lookupswitch.offset [(1, _), (4, _)] _ _ = _; rw [Op.lookupswitch.offset_cons, if_neg (Ne.symm e0), Op.lookupswitch.offset_cons, if_neg (Ne.symm e1), Op.lookupswitch.offset_nil]) (by decide) ?_
            refine wp_iconst (v := 0) dX11_mark_112 (by decide) ?_
            refine wp_istore (ls' := [some (.ref (ad G 71)), some (.int x1), some (.int x2), some (.int 0), some (.int 0), none]) dX11_mark_113 (by decide) rfl rfl ?_
            exact h
      · replace h := h.1 c10
        refine wp_aload_n dX11_mark_32 rfl rfl ?_
        refine wp_iconst (v := 3) dX11_mark_33 (by decide) ?_
        refine wp_callVI (a := 71) (d1 := 1) (As := [.int 3]) (st := []) dX11_mark_34 rfl cm_X11_refuse m_5_35 (by decide) rfl (Nat.le_of_ble_eq_true rfl) rfl h ?_
        intro r20 M19 h
        exact wp_iret (ty := .int) dX11_mark_37 rfl rfl h
    · replace h := h.1 c6
      refine wp_iconst (v := (-1 : Int32)) dX11_mark_17 (by decide) ?_
      exact wp_iret (ty := .int) dX11_mark_18 rfl rfl h
abbrev C_X11_areTwo (G : Glob) (x1 : Int32) (x2 : Int32) (M : Mem) (Q : Option Value → Mem → Prop) : Prop := WpM G 3 Y_X11_areTwo [.ref (ad G 71), .int x1, .int x2] M Q
set_option maxRecDepth 20000 in
theorem v_X11_areTwo {G : Glob} {x1 : Int32} {x2 : Int32} {M : Mem} {Q : Option Value → Mem → Prop}  (h : (WpM G 2 Y_X11_isGlove [.ref (ad G 71), .int x1] M (RI (fun r2 M1 => ((r2 = 0 → Q (some (.int 0)) M1) ∧ (¬ r2 = 0 → (WpM G 2 Y_X11_isGlove [.ref (ad G 71), .int x2] M1 (RI (fun r5 M4 => ((r5 = 0 → Q (some (.int 0)) M4) ∧ (¬ r5 = 0 → ((x1 = x2 → Q (some (.int 0)) M4) ∧ (¬ x1 = x2 → Q (some (.int 1)) M4))))))))))))) : C_X11_areTwo G x1 x2 M Q := by
  refine wp_enter (ls0 := [some (.ref (ad G 71)), some (.int x1), some (.int x2)]) (by decide +kernel) (Nat.le_of_ble_eq_true rfl) rfl ?_
  refine wp_aload_n dX11_areTwo_0 rfl rfl ?_
  refine wp_iload_n dX11_areTwo_1 rfl rfl ?_
  refine wp_callVI (a := 71) (d1 := 2) (As := [.int x1]) (st := []) dX11_areTwo_2 rfl cm_X11_isGlove m_5_121 (by decide) rfl (Nat.le_of_ble_eq_true rfl) rfl h ?_
  intro r2 M1 h
  refine wp_if_eq (tgt := 25) dX11_areTwo_5 (by decide) (fun c3 => ?_) (fun c3 => ?_)
  · replace h := h.1 c3
    refine wp_iconst (v := 0) dX11_areTwo_25 (by decide) ?_
    exact wp_iret (ty := .boolean) dX11_areTwo_26 rfl rfl h
  · replace h := h.2 c3
    refine wp_aload_n dX11_areTwo_8 rfl rfl ?_
    refine wp_iload_n dX11_areTwo_9 rfl rfl ?_
    refine wp_callVI (a := 71) (d1 := 2) (As := [.int x2]) (st := []) dX11_areTwo_10 rfl cm_X11_isGlove m_5_121 (by decide) rfl (Nat.le_of_ble_eq_true rfl) rfl h ?_
    intro r5 M4 h
    refine wp_if_eq (tgt := 25) dX11_areTwo_13 (by decide) (fun c6 => ?_) (fun c6 => ?_)
    · replace h := h.1 c6
      refine wp_iconst (v := 0) dX11_areTwo_25 (by decide) ?_
      exact wp_iret (ty := .boolean) dX11_areTwo_26 rfl rfl h
    · replace h := h.2 c6
      refine wp_iload_n dX11_areTwo_16 rfl rfl ?_
      refine wp_iload_n dX11_areTwo_17 rfl rfl ?_
      refine wp_icmp_eq (tgt := 25) dX11_areTwo_18 (by decide) (fun c7 => ?_) (fun c7 => ?_)
      · replace h := h.1 c7
        refine wp_iconst (v := 0) dX11_areTwo_25 (by decide) ?_
        exact wp_iret (ty := .boolean) dX11_areTwo_26 rfl rfl h
      · replace h := h.2 c7
        refine wp_iconst (v := 1) dX11_areTwo_21 (by decide) ?_
        refine wp_goto (tgt := 26) dX11_areTwo_22 (by decide) ?_
        exact wp_iret (ty := .boolean) dX11_areTwo_26 rfl rfl h
abbrev C_X11_pair (G : Glob) (x1 : Int32) (x2 : Int32) (M : Mem) (Q : Option Value → Mem → Prop) : Prop := WpM G 5 Y_X11_pair [.ref (ad G 71), .int x1, .int x2] M Q
set_option maxRecDepth 20000 in
theorem v_X11_pair {G : Glob} {x1 : Int32} {x2 : Int32} {M : Mem} {Q : Option Value → Mem → Prop}  (h : (WpM G 3 Y_X11_areTwo [.ref (ad G 71), .int x1, .int x2] M (RI (fun r2 M1 => ((r2 = 0 → Q (some (.int (-1 : Int32))) M1) ∧ (¬ r2 = 0 → (WpM G 4 Y_X11_pairOf [.ref (ad G 71), .int x1, .int x2] M1 (RI (fun r5 M4 => Q (some (.int r5)) M4))))))))) : C_X11_pair G x1 x2 M Q := by
  refine wp_enter (ls0 := [some (.ref (ad G 71)), some (.int x1), some (.int x2)]) (by decide +kernel) (Nat.le_of_ble_eq_true rfl) rfl ?_
  refine wp_aload_n dX11_pair_0 rfl rfl ?_
  refine wp_iload_n dX11_pair_1 rfl rfl ?_
  refine wp_iload_n dX11_pair_2 rfl rfl ?_
  refine wp_callVI (a := 71) (d1 := 3) (As := [.int x1, .int x2]) (st := []) dX11_pair_3 rfl cm_X11_areTwo m_5_155 (by decide) rfl (Nat.le_of_ble_eq_true rfl) rfl h ?_
  intro r2 M1 h
  refine wp_if_eq (tgt := 18) dX11_pair_6 (by decide) (fun c3 => ?_) (fun c3 => ?_)
  · replace h := h.1 c3
    refine wp_iconst (v := (-1 : Int32)) dX11_pair_18 (by decide) ?_
    exact wp_iret (ty := .int) dX11_pair_19 rfl rfl h
  · replace h := h.2 c3
    refine wp_aload_n dX11_pair_9 rfl rfl ?_
    refine wp_iload_n dX11_pair_10 rfl rfl ?_
    refine wp_iload_n dX11_pair_11 rfl rfl ?_
    refine wp_callVI (a := 71) (d1 := 4) (As := [.int x1, .int x2]) (st := []) dX11_pair_12 rfl cm_X11_pairOf m_5_140 (by decide) rfl (Nat.le_of_ble_eq_true rfl) rfl h ?_
    intro r5 M4 h
    refine wp_goto (tgt := 19) dX11_pair_15 (by decide) ?_
    exact wp_iret (ty := .int) dX11_pair_19 rfl rfl h
abbrev C_X11_wear (G : Glob) (x1 : Int32) (x2 : Int32) (M : Mem) (Q : Option Value → Mem → Prop) : Prop := WpM G 5 Y_X11_wear [.ref (ad G 71), .int x1, .int x2] M Q
set_option maxRecDepth 20000 in
theorem v_X11_wear {G : Glob} {x1 : Int32} {x2 : Int32} {M : Mem} {Q : Option Value → Mem → Prop}  (h : (WpM G 3 Y_X11_areTwo [.ref (ad G 71), .int x1, .int x2] M (RI (fun r2 M1 => ((r2 = 0 → Q (some (.int (-1 : Int32))) M1) ∧ (¬ r2 = 0 → (WpM G 4 Y_X11_pairOf [.ref (ad G 71), .int x1, .int x2] M1 (RI (fun r5 M4 => (vp_in x1 8 ∧ (((M4.1 86 x1.toNatClampNeg) = 0 → (vp_in x2 8 ∧ (((M4.1 86 x2.toNatClampNeg) = 0 → ((r5 = (-9 : Int32) → Q (some (.int (-4 : Int32))) M4) ∧ (¬ r5 = (-9 : Int32) → (((M4.1 71 27) = 40 → Q (some (.int (-2 : Int32))) M4) ∧ (¬ (M4.1 71 27) = 40 → (WpM G 2 Y_X11_does [.ref (ad G 71), .int 0, .int x1, .int x2] M4 (RV (fun M12 => Q (some (.int r5)) M12)))))))) ∧ (¬ (M4.1 86 x2.toNatClampNeg) = 0 → Q (some (.int (-4 : Int32))) M4)))) ∧ (¬ (M4.1 86 x1.toNatClampNeg) = 0 → Q (some (.int (-4 : Int32))) M4)))))))))))) : C_X11_wear G x1 x2 M Q := by
  refine wp_enter (ls0 := [some (.ref (ad G 71)), some (.int x1), some (.int x2), none]) (by decide +kernel) (Nat.le_of_ble_eq_true rfl) rfl ?_
  refine wp_aload_n dX11_wear_0 rfl rfl ?_
  refine wp_iload_n dX11_wear_1 rfl rfl ?_
  refine wp_iload_n dX11_wear_2 rfl rfl ?_
  refine wp_callVI (a := 71) (d1 := 3) (As := [.int x1, .int x2]) (st := []) dX11_wear_3 rfl cm_X11_areTwo m_5_155 (by decide) rfl (Nat.le_of_ble_eq_true rfl) rfl h ?_
  intro r2 M1 h
  refine wp_if_ne (tgt := 11) dX11_wear_6 (by decide) (fun c3 => ?_) (fun c3 => ?_)
  · replace h := h.2 c3
    refine wp_aload_n dX11_wear_11 rfl rfl ?_
    refine wp_iload_n dX11_wear_12 rfl rfl ?_
    refine wp_iload_n dX11_wear_13 rfl rfl ?_
    refine wp_callVI (a := 71) (d1 := 4) (As := [.int x1, .int x2]) (st := []) dX11_wear_14 rfl cm_X11_pairOf m_5_140 (by decide) rfl (Nat.le_of_ble_eq_true rfl) rfl h ?_
    intro r5 M4 h
    refine wp_istore_n (ls' := [some (.ref (ad G 71)), some (.int x1), some (.int x2), some (.int r5)]) dX11_wear_17 rfl (by decide) rfl rfl ?_
    refine wp_aload_n dX11_wear_18 rfl rfl ?_
    refine wp_getR (b := 86) dX11_wear_19 rfl rfl fb_11_25 m_4_180 ?_
    refine wp_iload_n dX11_wear_22 rfl rfl ?_
    obtain ⟨b6, h⟩ := h
    refine wp_iald (n := 8) dX11_wear_23 rfl rfl b6 ?_
    refine wp_if_ne (tgt := 42) dX11_wear_24 (by decide) (fun c7 => ?_) (fun c7 => ?_)
    · replace h := h.2 c7
      refine wp_bipush (v := (-4 : Int32)) dX11_wear_42 (by decide) ?_
      exact wp_iret (ty := .int) dX11_wear_44 rfl rfl h
    · replace h := h.1 c7
      refine wp_aload_n dX11_wear_27 rfl rfl ?_
      refine wp_getR (b := 86) dX11_wear_28 rfl rfl fb_11_25 m_4_180 ?_
      refine wp_iload_n dX11_wear_31 rfl rfl ?_
      obtain ⟨b8, h⟩ := h
      refine wp_iald (n := 8) dX11_wear_32 rfl rfl b8 ?_
      refine wp_if_ne (tgt := 42) dX11_wear_33 (by decide) (fun c9 => ?_) (fun c9 => ?_)
      · replace h := h.2 c9
        refine wp_bipush (v := (-4 : Int32)) dX11_wear_42 (by decide) ?_
        exact wp_iret (ty := .int) dX11_wear_44 rfl rfl h
      · replace h := h.1 c9
        refine wp_iload_n dX11_wear_36 rfl rfl ?_
        refine wp_bipush (v := (-9 : Int32)) dX11_wear_37 (by decide) ?_
        refine wp_icmp_ne (tgt := 45) dX11_wear_39 (by decide) (fun c10 => ?_) (fun c10 => ?_)
        · replace h := h.2 c10
          refine wp_aload_n dX11_wear_45 rfl rfl ?_
          refine wp_getI dX11_wear_46 rfl fb_11_27 m_4_182 ?_
          refine wp_bipush (v := 40) dX11_wear_49 (by decide) ?_
          refine wp_icmp_ne (tgt := 57) dX11_wear_51 (by decide) (fun c11 => ?_) (fun c11 => ?_)
          · replace h := h.2 c11
            refine wp_aload_n dX11_wear_57 rfl rfl ?_
            refine wp_iconst (v := 0) dX11_wear_58 (by decide) ?_
            refine wp_iload_n dX11_wear_59 rfl rfl ?_
            refine wp_iload_n dX11_wear_60 rfl rfl ?_
            refine wp_callVV (a := 71) (d1 := 2) (As := [.int 0, .int x1, .int x2]) (st := []) dX11_wear_61 rfl cm_X11_does m_5_163 (by decide) rfl (Nat.le_of_ble_eq_true rfl) rfl h ?_
            intro M12 h
            refine wp_iload_n dX11_wear_64 rfl rfl ?_
            exact wp_iret (ty := .int) dX11_wear_65 rfl rfl h
          · replace h := h.1 c11
            refine wp_bipush (v := (-2 : Int32)) dX11_wear_54 (by decide) ?_
            exact wp_iret (ty := .int) dX11_wear_56 rfl rfl h
        · replace h := h.1 c10
          refine wp_bipush (v := (-4 : Int32)) dX11_wear_42 (by decide) ?_
          exact wp_iret (ty := .int) dX11_wear_44 rfl rfl h
  · replace h := h.1 c3
    refine wp_iconst (v := (-1 : Int32)) dX11_wear_9 (by decide) ?_
    exact wp_iret (ty := .int) dX11_wear_10 rfl rfl h
abbrev C_X11_lose (G : Glob) (x1 : Int32) (M : Mem) (Q : Option Value → Mem → Prop) : Prop := WpM G 3 Y_X11_lose [.ref (ad G 71), .int x1] M Q
set_option maxRecDepth 20000 in
theorem v_X11_lose {G : Glob} {x1 : Int32} {M : Mem} {Q : Option Value → Mem → Prop}  (h : (WpM G 2 Y_X11_isGlove [.ref (ad G 71), .int x1] M (RI (fun r2 M1 => ((r2 = 0 → Q (some (.int (-1 : Int32))) M1) ∧ (¬ r2 = 0 → (vp_in x1 8 ∧ (((M1.1 86 x1.toNatClampNeg) = 0 → (vp_in x1 8 ∧ (((M1.1 82 x1.toNatClampNeg) = 3 → Q (some (.int (-4 : Int32))) M1) ∧ (¬ (M1.1 82 x1.toNatClampNeg) = 3 → (((M1.1 71 27) = 40 → Q (some (.int (-2 : Int32))) M1) ∧ (¬ (M1.1 71 27) = 40 → (WpM G 2 Y_X11_does [.ref (ad G 71), .int 1, .int x1, .int 0] M1 (RV (fun M9 => (WpM G 2 Y_X11_inDrawer [.ref (ad G 71)] M9 (RI (fun r11 M10 => Q (some (.int r11)) M10)))))))))))) ∧ (¬ (M1.1 86 x1.toNatClampNeg) = 0 → Q (some (.int (-4 : Int32))) M1))))))))) : C_X11_lose G x1 M Q := by
  refine wp_enter (ls0 := [some (.ref (ad G 71)), some (.int x1)]) (by decide +kernel) (Nat.le_of_ble_eq_true rfl) rfl ?_
  refine wp_aload_n dX11_lose_0 rfl rfl ?_
  refine wp_iload_n dX11_lose_1 rfl rfl ?_
  refine wp_callVI (a := 71) (d1 := 2) (As := [.int x1]) (st := []) dX11_lose_2 rfl cm_X11_isGlove m_5_121 (by decide) rfl (Nat.le_of_ble_eq_true rfl) rfl h ?_
  intro r2 M1 h
  refine wp_if_ne (tgt := 10) dX11_lose_5 (by decide) (fun c3 => ?_) (fun c3 => ?_)
  · replace h := h.2 c3
    refine wp_aload_n dX11_lose_10 rfl rfl ?_
    refine wp_getR (b := 86) dX11_lose_11 rfl rfl fb_11_25 m_4_180 ?_
    refine wp_iload_n dX11_lose_14 rfl rfl ?_
    obtain ⟨b4, h⟩ := h
    refine wp_iald (n := 8) dX11_lose_15 rfl rfl b4 ?_
    refine wp_if_ne (tgt := 29) dX11_lose_16 (by decide) (fun c5 => ?_) (fun c5 => ?_)
    · replace h := h.2 c5
      refine wp_bipush (v := (-4 : Int32)) dX11_lose_29 (by decide) ?_
      exact wp_iret (ty := .int) dX11_lose_31 rfl rfl h
    · replace h := h.1 c5
      refine wp_aload_n dX11_lose_19 rfl rfl ?_
      refine wp_getR (b := 82) dX11_lose_20 rfl rfl fb_11_21 m_4_176 ?_
      refine wp_iload_n dX11_lose_23 rfl rfl ?_
      obtain ⟨b6, h⟩ := h
      refine wp_iald (n := 8) dX11_lose_24 rfl rfl b6 ?_
      refine wp_iconst (v := 3) dX11_lose_25 (by decide) ?_
      refine wp_icmp_ne (tgt := 32) dX11_lose_26 (by decide) (fun c7 => ?_) (fun c7 => ?_)
      · replace h := h.2 c7
        refine wp_aload_n dX11_lose_32 rfl rfl ?_
        refine wp_getI dX11_lose_33 rfl fb_11_27 m_4_182 ?_
        refine wp_bipush (v := 40) dX11_lose_36 (by decide) ?_
        refine wp_icmp_ne (tgt := 44) dX11_lose_38 (by decide) (fun c8 => ?_) (fun c8 => ?_)
        · replace h := h.2 c8
          refine wp_aload_n dX11_lose_44 rfl rfl ?_
          refine wp_iconst (v := 1) dX11_lose_45 (by decide) ?_
          refine wp_iload_n dX11_lose_46 rfl rfl ?_
          refine wp_iconst (v := 0) dX11_lose_47 (by decide) ?_
          refine wp_callVV (a := 71) (d1 := 2) (As := [.int 1, .int x1, .int 0]) (st := []) dX11_lose_48 rfl cm_X11_does m_5_163 (by decide) rfl (Nat.le_of_ble_eq_true rfl) rfl h ?_
          intro M9 h
          refine wp_aload_n dX11_lose_51 rfl rfl ?_
          refine wp_callVI (a := 71) (d1 := 2) (As := []) (st := []) dX11_lose_52 rfl cm_X11_inDrawer m_5_171 (by decide) rfl (Nat.le_of_ble_eq_true rfl) rfl h ?_
          intro r11 M10 h
          exact wp_iret (ty := .int) dX11_lose_55 rfl rfl h
        · replace h := h.1 c8
          refine wp_bipush (v := (-2 : Int32)) dX11_lose_41 (by decide) ?_
          exact wp_iret (ty := .int) dX11_lose_43 rfl rfl h
      · replace h := h.1 c7
        refine wp_bipush (v := (-4 : Int32)) dX11_lose_29 (by decide) ?_
        exact wp_iret (ty := .int) dX11_lose_31 rfl rfl h
  · replace h := h.1 c3
    refine wp_iconst (v := (-1 : Int32)) dX11_lose_8 (by decide) ?_
    exact wp_iret (ty := .int) dX11_lose_9 rfl rfl h
abbrev C_X11_back (G : Glob) (x1 : Int32) (M : Mem) (Q : Option Value → Mem → Prop) : Prop := WpM G 3 Y_X11_back [.ref (ad G 71), .int x1] M Q
set_option maxRecDepth 20000 in
theorem v_X11_back {G : Glob} {x1 : Int32} {M : Mem} {Q : Option Value → Mem → Prop}  (h : (WpM G 2 Y_X11_isGlove [.ref (ad G 71), .int x1] M (RI (fun r2 M1 => ((r2 = 0 → Q (some (.int (-1 : Int32))) M1) ∧ (¬ r2 = 0 → (vp_in x1 8 ∧ (((M1.1 86 x1.toNatClampNeg) = 1 → (WpM G 2 Y_X11_inDrawer [.ref (ad G 71)] M1 (RI (fun r7 M6 => ((r7 < (M6.1 71 19) → (((M6.1 71 27) = 40 → Q (some (.int (-2 : Int32))) M6) ∧ (¬ (M6.1 71 27) = 40 → (WpM G 2 Y_X11_does [.ref (ad G 71), .int 2, .int x1, .int 0] M6 (RV (fun M10 => (WpM G 2 Y_X11_inDrawer [.ref (ad G 71)] M10 (RI (fun r12 M11 => Q (some (.int r12)) M11))))))))) ∧ (¬ r7 < (M6.1 71 19) → Q (some (.int (-6 : Int32))) M6)))))) ∧ (¬ (M1.1 86 x1.toNatClampNeg) = 1 → Q (some (.int (-4 : Int32))) M1))))))))) : C_X11_back G x1 M Q := by
  refine wp_enter (ls0 := [some (.ref (ad G 71)), some (.int x1)]) (by decide +kernel) (Nat.le_of_ble_eq_true rfl) rfl ?_
  refine wp_aload_n dX11_back_0 rfl rfl ?_
  refine wp_iload_n dX11_back_1 rfl rfl ?_
  refine wp_callVI (a := 71) (d1 := 2) (As := [.int x1]) (st := []) dX11_back_2 rfl cm_X11_isGlove m_5_121 (by decide) rfl (Nat.le_of_ble_eq_true rfl) rfl h ?_
  intro r2 M1 h
  refine wp_if_ne (tgt := 10) dX11_back_5 (by decide) (fun c3 => ?_) (fun c3 => ?_)
  · replace h := h.2 c3
    refine wp_aload_n dX11_back_10 rfl rfl ?_
    refine wp_getR (b := 86) dX11_back_11 rfl rfl fb_11_25 m_4_180 ?_
    refine wp_iload_n dX11_back_14 rfl rfl ?_
    obtain ⟨b4, h⟩ := h
    refine wp_iald (n := 8) dX11_back_15 rfl rfl b4 ?_
    refine wp_iconst (v := 1) dX11_back_16 (by decide) ?_
    refine wp_icmp_eq (tgt := 23) dX11_back_17 (by decide) (fun c5 => ?_) (fun c5 => ?_)
    · replace h := h.1 c5
      refine wp_aload_n dX11_back_23 rfl rfl ?_
      refine wp_callVI (a := 71) (d1 := 2) (As := []) (st := []) dX11_back_24 rfl cm_X11_inDrawer m_5_171 (by decide) rfl (Nat.le_of_ble_eq_true rfl) rfl h ?_
      intro r7 M6 h
      refine wp_aload_n dX11_back_27 rfl rfl ?_
      refine wp_getI dX11_back_28 rfl fb_11_19 m_4_174 ?_
      refine wp_icmp_lt (tgt := 37) dX11_back_31 (by decide) (fun c8 => ?_) (fun c8 => ?_)
      · replace h := h.1 c8
        refine wp_aload_n dX11_back_37 rfl rfl ?_
        refine wp_getI dX11_back_38 rfl fb_11_27 m_4_182 ?_
        refine wp_bipush (v := 40) dX11_back_41 (by decide) ?_
        refine wp_icmp_ne (tgt := 49) dX11_back_43 (by decide) (fun c9 => ?_) (fun c9 => ?_)
        · replace h := h.2 c9
          refine wp_aload_n dX11_back_49 rfl rfl ?_
          refine wp_iconst (v := 2) dX11_back_50 (by decide) ?_
          refine wp_iload_n dX11_back_51 rfl rfl ?_
          refine wp_iconst (v := 0) dX11_back_52 (by decide) ?_
          refine wp_callVV (a := 71) (d1 := 2) (As := [.int 2, .int x1, .int 0]) (st := []) dX11_back_53 rfl cm_X11_does m_5_163 (by decide) rfl (Nat.le_of_ble_eq_true rfl) rfl h ?_
          intro M10 h
          refine wp_aload_n dX11_back_56 rfl rfl ?_
          refine wp_callVI (a := 71) (d1 := 2) (As := []) (st := []) dX11_back_57 rfl cm_X11_inDrawer m_5_171 (by decide) rfl (Nat.le_of_ble_eq_true rfl) rfl h ?_
          intro r12 M11 h
          exact wp_iret (ty := .int) dX11_back_60 rfl rfl h
        · replace h := h.1 c9
          refine wp_bipush (v := (-2 : Int32)) dX11_back_46 (by decide) ?_
          exact wp_iret (ty := .int) dX11_back_48 rfl rfl h
      · replace h := h.2 c8
        refine wp_bipush (v := (-6 : Int32)) dX11_back_34 (by decide) ?_
        exact wp_iret (ty := .int) dX11_back_36 rfl rfl h
    · replace h := h.2 c5
      refine wp_bipush (v := (-4 : Int32)) dX11_back_20 (by decide) ?_
      exact wp_iret (ty := .int) dX11_back_22 rfl rfl h
  · replace h := h.1 c3
    refine wp_iconst (v := (-1 : Int32)) dX11_back_8 (by decide) ?_
    exact wp_iret (ty := .int) dX11_back_9 rfl rfl h
abbrev C_X11_out (G : Glob) (x1 : Int32) (M : Mem) (Q : Option Value → Mem → Prop) : Prop := WpM G 3 Y_X11_out [.ref (ad G 71), .int x1] M Q
set_option maxRecDepth 20000 in
theorem v_X11_out {G : Glob} {x1 : Int32} {M : Mem} {Q : Option Value → Mem → Prop}  (h : (WpM G 2 Y_X11_isGlove [.ref (ad G 71), .int x1] M (RI (fun r2 M1 => ((r2 = 0 → Q (some (.int (-1 : Int32))) M1) ∧ (¬ r2 = 0 → (vp_in x1 8 ∧ (((M1.1 86 x1.toNatClampNeg) = 2 → Q (some (.int (-4 : Int32))) M1) ∧ (¬ (M1.1 86 x1.toNatClampNeg) = 2 → (((M1.1 71 27) = 40 → Q (some (.int (-2 : Int32))) M1) ∧ (¬ (M1.1 71 27) = 40 → (WpM G 2 Y_X11_does [.ref (ad G 71), .int 3, .int x1, .int 0] M1 (RV (fun M7 => (WpM G 2 Y_X11_inDrawer [.ref (ad G 71)] M7 (RI (fun r9 M8 => Q (some (.int r9)) M8))))))))))))))))) : C_X11_out G x1 M Q := by
  refine wp_enter (ls0 := [some (.ref (ad G 71)), some (.int x1)]) (by decide +kernel) (Nat.le_of_ble_eq_true rfl) rfl ?_
  refine wp_aload_n dX11_out_0 rfl rfl ?_
  refine wp_iload_n dX11_out_1 rfl rfl ?_
  refine wp_callVI (a := 71) (d1 := 2) (As := [.int x1]) (st := []) dX11_out_2 rfl cm_X11_isGlove m_5_121 (by decide) rfl (Nat.le_of_ble_eq_true rfl) rfl h ?_
  intro r2 M1 h
  refine wp_if_ne (tgt := 10) dX11_out_5 (by decide) (fun c3 => ?_) (fun c3 => ?_)
  · replace h := h.2 c3
    refine wp_aload_n dX11_out_10 rfl rfl ?_
    refine wp_getR (b := 86) dX11_out_11 rfl rfl fb_11_25 m_4_180 ?_
    refine wp_iload_n dX11_out_14 rfl rfl ?_
    obtain ⟨b4, h⟩ := h
    refine wp_iald (n := 8) dX11_out_15 rfl rfl b4 ?_
    refine wp_iconst (v := 2) dX11_out_16 (by decide) ?_
    refine wp_icmp_ne (tgt := 23) dX11_out_17 (by decide) (fun c5 => ?_) (fun c5 => ?_)
    · replace h := h.2 c5
      refine wp_aload_n dX11_out_23 rfl rfl ?_
      refine wp_getI dX11_out_24 rfl fb_11_27 m_4_182 ?_
      refine wp_bipush (v := 40) dX11_out_27 (by decide) ?_
      refine wp_icmp_ne (tgt := 35) dX11_out_29 (by decide) (fun c6 => ?_) (fun c6 => ?_)
      · replace h := h.2 c6
        refine wp_aload_n dX11_out_35 rfl rfl ?_
        refine wp_iconst (v := 3) dX11_out_36 (by decide) ?_
        refine wp_iload_n dX11_out_37 rfl rfl ?_
        refine wp_iconst (v := 0) dX11_out_38 (by decide) ?_
        refine wp_callVV (a := 71) (d1 := 2) (As := [.int 3, .int x1, .int 0]) (st := []) dX11_out_39 rfl cm_X11_does m_5_163 (by decide) rfl (Nat.le_of_ble_eq_true rfl) rfl h ?_
        intro M7 h
        refine wp_aload_n dX11_out_42 rfl rfl ?_
        refine wp_callVI (a := 71) (d1 := 2) (As := []) (st := []) dX11_out_43 rfl cm_X11_inDrawer m_5_171 (by decide) rfl (Nat.le_of_ble_eq_true rfl) rfl h ?_
        intro r9 M8 h
        exact wp_iret (ty := .int) dX11_out_46 rfl rfl h
      · replace h := h.1 c6
        refine wp_bipush (v := (-2 : Int32)) dX11_out_32 (by decide) ?_
        exact wp_iret (ty := .int) dX11_out_34 rfl rfl h
    · replace h := h.1 c5
      refine wp_bipush (v := (-4 : Int32)) dX11_out_20 (by decide) ?_
      exact wp_iret (ty := .int) dX11_out_22 rfl rfl h
  · replace h := h.1 c3
    refine wp_iconst (v := (-1 : Int32)) dX11_out_8 (by decide) ?_
    exact wp_iret (ty := .int) dX11_out_9 rfl rfl h
abbrev C_X11_undo (G : Glob) (x1 : Int32) (M : Mem) (Q : Option Value → Mem → Prop) : Prop := WpM G 3 Y_X11_undo [.ref (ad G 71), .int x1] M Q
set_option maxRecDepth 20000 in
theorem v_X11_undo {G : Glob} {x1 : Int32} {M : Mem} {Q : Option Value → Mem → Prop}  (h : (WpM G 1 Y_X11_in [.int x1, .int 0, .int (M.1 71 27)] M (RI (fun r2 M1 => ((r2 = 0 → Q (some (.int (-1 : Int32))) M1) ∧ (¬ r2 = 0 → (∀ M4 : Mem, M4 = upI M1 71 27 x1 → (WpM G 2 Y_X11_goThrough [.ref (ad G 71)] M4 (RV (fun M5 => Q (some (.int ((M1.1 71 27) - x1))) M5)))))))))) : C_X11_undo G x1 M Q := by
  refine wp_enter (ls0 := [some (.ref (ad G 71)), some (.int x1), none]) (by decide +kernel) (Nat.le_of_ble_eq_true rfl) rfl ?_
  refine wp_iload_n dX11_undo_0 rfl rfl ?_
  refine wp_iconst (v := 0) dX11_undo_1 (by decide) ?_
  refine wp_aload_n dX11_undo_2 rfl rfl ?_
  refine wp_getI dX11_undo_3 rfl fb_11_27 m_4_182 ?_
  refine wp_callSI (d1 := 1) (As := [.int x1, .int 0, .int (M.1 71 27)]) (st := []) dX11_undo_6 cm_X11_in m_5_32 (by decide) rfl (Nat.le_of_ble_eq_true rfl) rfl h ?_
  intro r2 M1 h
  refine wp_if_ne (tgt := 14) dX11_undo_9 (by decide) (fun c3 => ?_) (fun c3 => ?_)
  · replace h := h.2 c3
    refine wp_aload_n dX11_undo_14 rfl rfl ?_
    refine wp_getI dX11_undo_15 rfl fb_11_27 m_4_182 ?_
    refine wp_iload_n dX11_undo_18 rfl rfl ?_
    refine wp_isub dX11_undo_19 ?_
    refine wp_istore_n (ls' := [some (.ref (ad G 71)), some (.int x1), some (.int ((M1.1 71 27) - x1))]) dX11_undo_20 rfl (by decide) rfl rfl ?_
    refine wp_aload_n dX11_undo_21 rfl rfl ?_
    refine wp_iload_n dX11_undo_22 rfl rfl ?_
    refine wp_putI dX11_undo_23 rfl fp_11_27 m_4_182 ?_
    refine wp_topM (fun M4 hM4 => ?_)
    replace h := h M4 hM4
    refine wp_aload_n dX11_undo_26 rfl rfl ?_
    refine wp_callVV (a := 71) (d1 := 2) (As := []) (st := []) dX11_undo_27 rfl cm_X11_goThrough m_5_109 (by decide) rfl (Nat.le_of_ble_eq_true rfl) rfl h ?_
    intro M5 h
    refine wp_iload_n dX11_undo_30 rfl rfl ?_
    exact wp_iret (ty := .int) dX11_undo_31 rfl rfl h
  · replace h := h.1 c3
    refine wp_iconst (v := (-1 : Int32)) dX11_undo_12 (by decide) ?_
    exact wp_iret (ty := .int) dX11_undo_13 rfl rfl h
abbrev P_X11_keep_33 (G : Glob) (x1 : Int32) (x2 : Int32) (M : Mem) (Q : Option Value → Mem → Prop) : Prop := Wp G 2 Y_X11_keep 33 [some (.ref (ad G 71)), some (.int x1), some (.int x2)] [] M Q
set_option maxRecDepth 20000 in
theorem v_X11_keep_33 {G : Glob} {x1 : Int32} {x2 : Int32} {M : Mem} {Q : Option Value → Mem → Prop}  (h : ((x2 < 120 → (vp_in x2 120 ∧ (vp_in ((120 * x1) + x2) 360 ∧ (∀ M4 : Mem, M4 = upI M 90 (((120 * x1) + x2).toNatClampNeg) (M.1 88 x2.toNatClampNeg) → P_X11_keep_33 G x1 (x2 + 1) M4 Q)))) ∧ (¬ x2 < 120 → Q (some (.int (M.1 71 27))) M))) : P_X11_keep_33 G x1 x2 M Q := by
  refine wp_iload_n dX11_keep_33 rfl rfl ?_
  refine wp_bipush (v := 120) dX11_keep_34 (by decide) ?_
  refine wp_icmp_ge (tgt := 62) dX11_keep_36 (by decide) (fun c1 => ?_) (fun c1 => ?_)
  · replace h := h.2 c1
    refine wp_aload_n dX11_keep_62 rfl rfl ?_
    refine wp_getI dX11_keep_63 rfl fb_11_27 m_4_182 ?_
    exact wp_iret (ty := .int) dX11_keep_66 rfl rfl h
  · replace h := h.1 c1
    refine wp_aload_n dX11_keep_39 rfl rfl ?_
    refine wp_getR (b := 90) dX11_keep_40 rfl rfl fb_11_30 m_4_185 ?_
    refine wp_bipush (v := 120) dX11_keep_43 (by decide) ?_
    refine wp_iload_n dX11_keep_45 rfl rfl ?_
    refine wp_imul dX11_keep_46 ?_
    refine wp_iload_n dX11_keep_47 rfl rfl ?_
    refine wp_iadd dX11_keep_48 ?_
    refine wp_aload_n dX11_keep_49 rfl rfl ?_
    refine wp_getR (b := 88) dX11_keep_50 rfl rfl fb_11_28 m_4_183 ?_
    refine wp_iload_n dX11_keep_53 rfl rfl ?_
    obtain ⟨b2, h⟩ := h
    refine wp_iald (n := 120) dX11_keep_54 rfl rfl b2 ?_
    obtain ⟨b3, h⟩ := h
    refine wp_iast (n := 360) dX11_keep_55 rfl rfl b3 ?_
    refine wp_topM (fun M4 hM4 => ?_)
    replace h := h M4 hM4
    refine wp_iinc (v := (x2 + 1)) (ls' := [some (.ref (ad G 71)), some (.int x1), some (.int (x2 + 1))]) dX11_keep_56 rfl rfl (by decide) rfl rfl ?_
    refine wp_goto (tgt := 33) dX11_keep_59 (by decide) ?_
    exact h
abbrev C_X11_keep (G : Glob) (x1 : Int32) (M : Mem) (Q : Option Value → Mem → Prop) : Prop := WpM G 2 Y_X11_keep [.ref (ad G 71), .int x1] M Q
set_option maxRecDepth 20000 in
theorem v_X11_keep {G : Glob} {x1 : Int32} {M : Mem} {Q : Option Value → Mem → Prop}  (h : (WpM G 1 Y_X11_in [.int x1, .int 0, .int 2] M (RI (fun r2 M1 => ((r2 = 0 → Q (some (.int (-1 : Int32))) M1) ∧ (¬ r2 = 0 → (((M1.1 71 20) = 0 → Q (some (.int (-4 : Int32))) M1) ∧ (¬ (M1.1 71 20) = 0 → (vp_in x1 3 ∧ (∀ M6 : Mem, M6 = upI M1 89 (x1.toNatClampNeg) (M1.1 71 27) → P_X11_keep_33 G x1 0 M6 Q)))))))))) : C_X11_keep G x1 M Q := by
  refine wp_enter (ls0 := [some (.ref (ad G 71)), some (.int x1), none]) (by decide +kernel) (Nat.le_of_ble_eq_true rfl) rfl ?_
  refine wp_iload_n dX11_keep_0 rfl rfl ?_
  refine wp_iconst (v := 0) dX11_keep_1 (by decide) ?_
  refine wp_iconst (v := 2) dX11_keep_2 (by decide) ?_
  refine wp_callSI (d1 := 1) (As := [.int x1, .int 0, .int 2]) (st := []) dX11_keep_3 cm_X11_in m_5_32 (by decide) rfl (Nat.le_of_ble_eq_true rfl) rfl h ?_
  intro r2 M1 h
  refine wp_if_ne (tgt := 11) dX11_keep_6 (by decide) (fun c3 => ?_) (fun c3 => ?_)
  · replace h := h.2 c3
    refine wp_aload_n dX11_keep_11 rfl rfl ?_
    refine wp_getI dX11_keep_12 rfl fb_11_20 m_4_175 ?_
    refine wp_if_ne (tgt := 21) dX11_keep_15 (by decide) (fun c4 => ?_) (fun c4 => ?_)
    · replace h := h.2 c4
      refine wp_aload_n dX11_keep_21 rfl rfl ?_
      refine wp_getR (b := 89) dX11_keep_22 rfl rfl fb_11_29 m_4_184 ?_
      refine wp_iload_n dX11_keep_25 rfl rfl ?_
      refine wp_aload_n dX11_keep_26 rfl rfl ?_
      refine wp_getI dX11_keep_27 rfl fb_11_27 m_4_182 ?_
      obtain ⟨b5, h⟩ := h
      refine wp_iast (n := 3) dX11_keep_30 rfl rfl b5 ?_
      refine wp_topM (fun M6 hM6 => ?_)
      replace h := h M6 hM6
      refine wp_iconst (v := 0) dX11_keep_31 (by decide) ?_
      refine wp_istore_n (ls' := [some (.ref (ad G 71)), some (.int x1), some (.int 0)]) dX11_keep_32 rfl (by decide) rfl rfl ?_
      exact h
    · replace h := h.1 c4
      refine wp_bipush (v := (-4 : Int32)) dX11_keep_18 (by decide) ?_
      exact wp_iret (ty := .int) dX11_keep_20 rfl rfl h
  · replace h := h.1 c3
    refine wp_iconst (v := (-1 : Int32)) dX11_keep_9 (by decide) ?_
    exact wp_iret (ty := .int) dX11_keep_10 rfl rfl h
abbrev P_X11_on_38 (G : Glob) (x1 : Int32) (x2 : Int32) (M : Mem) (Q : Option Value → Mem → Prop) : Prop := Wp G 3 Y_X11_on 38 [some (.ref (ad G 71)), some (.int x1), some (.int x2)] [] M Q
set_option maxRecDepth 20000 in
theorem v_X11_on_38 {G : Glob} {x1 : Int32} {x2 : Int32} {M : Mem} {Q : Option Value → Mem → Prop}  (h : ((x2 < 120 → (vp_in ((120 * x1) + x2) 360 ∧ (vp_in x2 120 ∧ (∀ M5 : Mem, M5 = upI M 88 (x2.toNatClampNeg) (M.1 90 ((120 * x1) + x2).toNatClampNeg) → P_X11_on_38 G x1 (x2 + 1) M5 Q)))) ∧ (¬ x2 < 120 → (WpM G 2 Y_X11_goThrough [.ref (ad G 71)] M (RV (fun M2 => Q (some (.int (M2.1 71 27))) M2)))))) : P_X11_on_38 G x1 x2 M Q := by
  refine wp_iload_n dX11_on_38 rfl rfl ?_
  refine wp_bipush (v := 120) dX11_on_39 (by decide) ?_
  refine wp_icmp_ge (tgt := 67) dX11_on_41 (by decide) (fun c1 => ?_) (fun c1 => ?_)
  · replace h := h.2 c1
    refine wp_aload_n dX11_on_67 rfl rfl ?_
    refine wp_callVV (a := 71) (d1 := 2) (As := []) (st := []) dX11_on_68 rfl cm_X11_goThrough m_5_109 (by decide) rfl (Nat.le_of_ble_eq_true rfl) rfl h ?_
    intro M2 h
    refine wp_aload_n dX11_on_71 rfl rfl ?_
    refine wp_getI dX11_on_72 rfl fb_11_27 m_4_182 ?_
    exact wp_iret (ty := .int) dX11_on_75 rfl rfl h
  · replace h := h.1 c1
    refine wp_aload_n dX11_on_44 rfl rfl ?_
    refine wp_getR (b := 88) dX11_on_45 rfl rfl fb_11_28 m_4_183 ?_
    refine wp_iload_n dX11_on_48 rfl rfl ?_
    refine wp_aload_n dX11_on_49 rfl rfl ?_
    refine wp_getR (b := 90) dX11_on_50 rfl rfl fb_11_30 m_4_185 ?_
    refine wp_bipush (v := 120) dX11_on_53 (by decide) ?_
    refine wp_iload_n dX11_on_55 rfl rfl ?_
    refine wp_imul dX11_on_56 ?_
    refine wp_iload_n dX11_on_57 rfl rfl ?_
    refine wp_iadd dX11_on_58 ?_
    obtain ⟨b3, h⟩ := h
    refine wp_iald (n := 360) dX11_on_59 rfl rfl b3 ?_
    obtain ⟨b4, h⟩ := h
    refine wp_iast (n := 120) dX11_on_60 rfl rfl b4 ?_
    refine wp_topM (fun M5 hM5 => ?_)
    replace h := h M5 hM5
    refine wp_iinc (v := (x2 + 1)) (ls' := [some (.ref (ad G 71)), some (.int x1), some (.int (x2 + 1))]) dX11_on_61 rfl rfl (by decide) rfl rfl ?_
    refine wp_goto (tgt := 38) dX11_on_64 (by decide) ?_
    exact h
abbrev C_X11_on (G : Glob) (x1 : Int32) (M : Mem) (Q : Option Value → Mem → Prop) : Prop := WpM G 3 Y_X11_on [.ref (ad G 71), .int x1] M Q
set_option maxRecDepth 20000 in
theorem v_X11_on {G : Glob} {x1 : Int32} {M : Mem} {Q : Option Value → Mem → Prop}  (h : (WpM G 1 Y_X11_in [.int x1, .int 0, .int 2] M (RI (fun r2 M1 => ((r2 = 0 → Q (some (.int (-1 : Int32))) M1) ∧ (¬ r2 = 0 → (vp_in x1 3 ∧ (((M1.1 89 x1.toNatClampNeg) < 0 → (WpM G 1 Y_X11_refuse [.ref (ad G 71), .int 1] M1 (RI (fun r9 M8 => Q (some (.int r9)) M8)))) ∧ (¬ (M1.1 89 x1.toNatClampNeg) < 0 → (vp_in x1 3 ∧ (∀ M7 : Mem, M7 = upI M1 71 27 (M1.1 89 x1.toNatClampNeg) → P_X11_on_38 G x1 0 M7 Q))))))))))) : C_X11_on G x1 M Q := by
  refine wp_enter (ls0 := [some (.ref (ad G 71)), some (.int x1), none]) (by decide +kernel) (Nat.le_of_ble_eq_true rfl) rfl ?_
  refine wp_iload_n dX11_on_0 rfl rfl ?_
  refine wp_iconst (v := 0) dX11_on_1 (by decide) ?_
  refine wp_iconst (v := 2) dX11_on_2 (by decide) ?_
  refine wp_callSI (d1 := 1) (As := [.int x1, .int 0, .int 2]) (st := []) dX11_on_3 cm_X11_in m_5_32 (by decide) rfl (Nat.le_of_ble_eq_true rfl) rfl h ?_
  intro r2 M1 h
  refine wp_if_ne (tgt := 11) dX11_on_6 (by decide) (fun c3 => ?_) (fun c3 => ?_)
  · replace h := h.2 c3
    refine wp_aload_n dX11_on_11 rfl rfl ?_
    refine wp_getR (b := 89) dX11_on_12 rfl rfl fb_11_29 m_4_184 ?_
    refine wp_iload_n dX11_on_15 rfl rfl ?_
    obtain ⟨b4, h⟩ := h
    refine wp_iald (n := 3) dX11_on_16 rfl rfl b4 ?_
    refine wp_if_ge (tgt := 26) dX11_on_17 (by decide) (fun c5 => ?_) (fun c5 => ?_)
    · replace h := h.2 c5
      refine wp_aload_n dX11_on_26 rfl rfl ?_
      refine wp_aload_n dX11_on_27 rfl rfl ?_
      refine wp_getR (b := 89) dX11_on_28 rfl rfl fb_11_29 m_4_184 ?_
      refine wp_iload_n dX11_on_31 rfl rfl ?_
      obtain ⟨b6, h⟩ := h
      refine wp_iald (n := 3) dX11_on_32 rfl rfl b6 ?_
      refine wp_putI dX11_on_33 rfl fp_11_27 m_4_182 ?_
      refine wp_topM (fun M7 hM7 => ?_)
      replace h := h M7 hM7
      refine wp_iconst (v := 0) dX11_on_36 (by decide) ?_
      refine wp_istore_n (ls' := [some (.ref (ad G 71)), some (.int x1), some (.int 0)]) dX11_on_37 rfl (by decide) rfl rfl ?_
      exact h
    · replace h := h.1 c5
      refine wp_aload_n dX11_on_20 rfl rfl ?_
      refine wp_iconst (v := 1) dX11_on_21 (by decide) ?_
      refine wp_callVI (a := 71) (d1 := 1) (As := [.int 1]) (st := []) dX11_on_22 rfl cm_X11_refuse m_5_35 (by decide) rfl (Nat.le_of_ble_eq_true rfl) rfl h ?_
      intro r9 M8 h
      exact wp_iret (ty := .int) dX11_on_25 rfl rfl h
  · replace h := h.1 c3
    refine wp_iconst (v := (-1 : Int32)) dX11_on_9 (by decide) ?_
    exact wp_iret (ty := .int) dX11_on_10 rfl rfl h
abbrev P_X11_lowestOf_2 (G : Glob) (x0 : Int32) (x1 : Int32) (M : Mem) (Q : Option Value → Mem → Prop) : Prop := Wp G 1 Y_X11_lowestOf 2 [some (.int x0), some (.int x1)] [] M Q
set_option maxRecDepth 20000 in
theorem v_X11_lowestOf_2 {G : Glob} {x0 : Int32} {x1 : Int32} {M : Mem} {Q : Option Value → Mem → Prop}  (h : ((((x0 >>> (x1 &&& 31)) &&& 1) = 0 → P_X11_lowestOf_2 G x0 (x1 + 1) M Q) ∧ (¬ ((x0 >>> (x1 &&& 31)) &&& 1) = 0 → Q (some (.int x1)) M))) : P_X11_lowestOf_2 G x0 x1 M Q := by
  refine wp_iload_n dX11_lowestOf_2 rfl rfl ?_
  refine wp_iload_n dX11_lowestOf_3 rfl rfl ?_
  refine wp_ishr dX11_lowestOf_4 ?_
  refine wp_iconst (v := 1) dX11_lowestOf_5 (by decide) ?_
  refine wp_iand dX11_lowestOf_6 ?_
  refine wp_if_ne (tgt := 16) dX11_lowestOf_7 (by decide) (fun c1 => ?_) (fun c1 => ?_)
  · replace h := h.2 c1
    refine wp_iload_n dX11_lowestOf_16 rfl rfl ?_
    exact wp_iret (ty := .int) dX11_lowestOf_17 rfl rfl h
  · replace h := h.1 c1
    refine wp_iinc (v := (x1 + 1)) (ls' := [some (.int x0), some (.int (x1 + 1))]) dX11_lowestOf_10 rfl rfl (by decide) rfl rfl ?_
    refine wp_goto (tgt := 2) dX11_lowestOf_13 (by decide) ?_
    exact h
abbrev C_X11_lowestOf (G : Glob) (x0 : Int32) (M : Mem) (Q : Option Value → Mem → Prop) : Prop := WpM G 1 Y_X11_lowestOf [.int x0] M Q
set_option maxRecDepth 20000 in
theorem v_X11_lowestOf {G : Glob} {x0 : Int32} {M : Mem} {Q : Option Value → Mem → Prop}  (h : P_X11_lowestOf_2 G x0 0 M Q) : C_X11_lowestOf G x0 M Q := by
  refine wp_enter (ls0 := [some (.int x0), none]) (by decide +kernel) (Nat.le_of_ble_eq_true rfl) rfl ?_
  refine wp_iconst (v := 0) dX11_lowestOf_0 (by decide) ?_
  refine wp_istore_n (ls' := [some (.int x0), some (.int 0)]) dX11_lowestOf_1 rfl (by decide) rfl rfl ?_
  exact h
abbrev P_X11_measure_16 (G : Glob) (x1 : Int32) (M : Mem) (Q : Option Value → Mem → Prop) : Prop := Wp G 5 Y_X11_measure 16 [some (.ref (ad G 71)), some (.int x1), none, none, none, none, none] [] M Q
abbrev P_X11_measure_66 (G : Glob) (x1 : Int32) (x2 : Int32) (x3 : Int32) (x4 : Int32) (M : Mem) (Q : Option Value → Mem → Prop) : Prop := Wp G 5 Y_X11_measure 66 [some (.ref (ad G 71)), some (.int x1), some (.int x2), some (.int x3), some (.int x4), none, none] [] M Q
set_option maxRecDepth 20000 in
theorem v_X11_measure_16 {G : Glob} {x1 : Int32} {M : Mem} {Q : Option Value → Mem → Prop}  (h : (WpM G 1 Y_X11_all [.ref (ad G 71)] M (RI (fun r2 M1 => ((r2 < x1 → Q none M1) ∧ (¬ r2 < x1 → (WpM G 1 Y_X11_lowestOf [.int x1] M1 (RI (fun r5 M4 => (∀ y6 : Int32, y6 = (x1 &&& ((1 <<< (r5 &&& 31)) ^^^ (-1 : Int32))) → (vp_in y6 256 ∧ (vp_in x1 256 ∧ (∀ M9 : Mem, M9 = upI M4 91 (x1.toNatClampNeg) (M4.1 91 y6.toNatClampNeg) → (vp_in y6 256 ∧ (vp_in x1 256 ∧ (∀ M12 : Mem, M12 = upI M9 92 (x1.toNatClampNeg) (M9.1 92 y6.toNatClampNeg) → P_X11_measure_66 G x1 r5 y6 (r5 + 1) M12 Q)))))))))))))))) : P_X11_measure_16 G x1 M Q := by
  refine wp_iload_n dX11_measure_16 rfl rfl ?_
  refine wp_aload_n dX11_measure_17 rfl rfl ?_
  refine wp_callVI (a := 71) (d1 := 1) (As := []) (st := [.int x1]) dX11_measure_18 rfl cm_X11_all m_5_206 (by decide) rfl (Nat.le_of_ble_eq_true rfl) rfl h ?_
  intro r2 M1 h
  refine wp_icmp_gt (tgt := 214) dX11_measure_21 (by decide) (fun c3 => ?_) (fun c3 => ?_)
  · replace h := h.1 c3
    exact wp_vret dX11_measure_214 rfl h
  · replace h := h.2 c3
    refine wp_iload_n dX11_measure_24 rfl rfl ?_
    refine wp_callSI (d1 := 1) (As := [.int x1]) (st := []) dX11_measure_25 cm_X11_lowestOf m_5_214 (by decide) rfl (Nat.le_of_ble_eq_true rfl) rfl h ?_
    intro r5 M4 h
    refine wp_istore_n (ls' := [some (.ref (ad G 71)), some (.int x1), some (.int r5), none, none, none, none]) dX11_measure_28 rfl (by decide) rfl rfl ?_
    refine wp_iload_n dX11_measure_29 rfl rfl ?_
    refine wp_iconst (v := 1) dX11_measure_30 (by decide) ?_
    refine wp_iload_n dX11_measure_31 rfl rfl ?_
    refine wp_ishl dX11_measure_32 ?_
    refine wp_iconst (v := (-1 : Int32)) dX11_measure_33 (by decide) ?_
    refine wp_ixor dX11_measure_34 ?_
    refine wp_iand dX11_measure_35 ?_
    refine wp_topI (fun y6 hy6 => ?_)
    replace h := h y6 hy6
    refine wp_istore_n (ls' := [some (.ref (ad G 71)), some (.int x1), some (.int r5), some (.int y6), none, none, none]) dX11_measure_36 rfl (by decide) rfl rfl ?_
    refine wp_aload_n dX11_measure_37 rfl rfl ?_
    refine wp_getR (b := 91) dX11_measure_38 rfl rfl fb_11_31 m_4_186 ?_
    refine wp_iload_n dX11_measure_41 rfl rfl ?_
    refine wp_aload_n dX11_measure_42 rfl rfl ?_
    refine wp_getR (b := 91) dX11_measure_43 rfl rfl fb_11_31 m_4_186 ?_
    refine wp_iload_n dX11_measure_46 rfl rfl ?_
    obtain ⟨b7, h⟩ := h
    refine wp_iald (n := 256) dX11_measure_47 rfl rfl b7 ?_
    obtain ⟨b8, h⟩ := h
    refine wp_iast (n := 256) dX11_measure_48 rfl rfl b8 ?_
    refine wp_topM (fun M9 hM9 => ?_)
    replace h := h M9 hM9
    refine wp_aload_n dX11_measure_49 rfl rfl ?_
    refine wp_getR (b := 92) dX11_measure_50 rfl rfl fb_11_32 m_4_187 ?_
    refine wp_iload_n dX11_measure_53 rfl rfl ?_
    refine wp_aload_n dX11_measure_54 rfl rfl ?_
    refine wp_getR (b := 92) dX11_measure_55 rfl rfl fb_11_32 m_4_187 ?_
    refine wp_iload_n dX11_measure_58 rfl rfl ?_
    obtain ⟨b10, h⟩ := h
    refine wp_iald (n := 256) dX11_measure_59 rfl rfl b10 ?_
    obtain ⟨b11, h⟩ := h
    refine wp_iast (n := 256) dX11_measure_60 rfl rfl b11 ?_
    refine wp_topM (fun M12 hM12 => ?_)
    replace h := h M12 hM12
    refine wp_iload_n dX11_measure_61 rfl rfl ?_
    refine wp_iconst (v := 1) dX11_measure_62 (by decide) ?_
    refine wp_iadd dX11_measure_63 ?_
    refine wp_istore (ls' := [some (.ref (ad G 71)), some (.int x1), some (.int r5), some (.int y6), some (.int (r5 + 1)), none, none]) dX11_measure_64 (by decide) rfl rfl ?_
    exact h
set_option maxRecDepth 20000 in
theorem v_X11_measure_66 {G : Glob} {x1 : Int32} {x2 : Int32} {x3 : Int32} {x4 : Int32} {M : Mem} {Q : Option Value → Mem → Prop}  (h : ((x4 < (M.1 71 20) → ((((x3 >>> (x4 &&& 31)) &&& 1) = 1 → (WpM G 4 Y_X11_pairOf [.ref (ad G 71), .int x2, .int x4] M (RI (fun r5 M4 => ((r5 = (-9 : Int32) → P_X11_measure_66 G x1 x2 x3 (x4 + 1) M4 Q) ∧ (¬ r5 = (-9 : Int32) → (∀ y7 : Int32, y7 = (x3 &&& ((1 <<< (x4 &&& 31)) ^^^ (-1 : Int32))) → (vp_in y7 256 ∧ (vp_in x1 256 ∧ (((M4.1 91 x1.toNatClampNeg) < (r5 + (M4.1 91 y7.toNatClampNeg)) → (vp_in y7 256 ∧ (vp_in x1 256 ∧ (∀ M25 : Mem, M25 = upI M4 91 (x1.toNatClampNeg) (r5 + (M4.1 91 y7.toNatClampNeg)) → (vp_in y7 256 ∧ (vp_in x1 256 ∧ (((M25.1 92 x1.toNatClampNeg) < (1 + (M25.1 92 y7.toNatClampNeg)) → (vp_in y7 256 ∧ (vp_in x1 256 ∧ (∀ M34 : Mem, M34 = upI M25 92 (x1.toNatClampNeg) (1 + (M25.1 92 y7.toNatClampNeg)) → P_X11_measure_66 G x1 x2 x3 (x4 + 1) M34 Q)))) ∧ (¬ (M25.1 92 x1.toNatClampNeg) < (1 + (M25.1 92 y7.toNatClampNeg)) → (vp_in x1 256 ∧ (vp_in x1 256 ∧ (∀ M31 : Mem, M31 = upI M25 92 (x1.toNatClampNeg) (M25.1 92 x1.toNatClampNeg) → P_X11_measure_66 G x1 x2 x3 (x4 + 1) M31 Q))))))))))) ∧ (¬ (M4.1 91 x1.toNatClampNeg) < (r5 + (M4.1 91 y7.toNatClampNeg)) → (vp_in x1 256 ∧ (vp_in x1 256 ∧ (∀ M13 : Mem, M13 = upI M4 91 (x1.toNatClampNeg) (M4.1 91 x1.toNatClampNeg) → (vp_in y7 256 ∧ (vp_in x1 256 ∧ (((M13.1 92 x1.toNatClampNeg) < (1 + (M13.1 92 y7.toNatClampNeg)) → (vp_in y7 256 ∧ (vp_in x1 256 ∧ (∀ M22 : Mem, M22 = upI M13 92 (x1.toNatClampNeg) (1 + (M13.1 92 y7.toNatClampNeg)) → P_X11_measure_66 G x1 x2 x3 (x4 + 1) M22 Q)))) ∧ (¬ (M13.1 92 x1.toNatClampNeg) < (1 + (M13.1 92 y7.toNatClampNeg)) → (vp_in x1 256 ∧ (vp_in x1 256 ∧ (∀ M19 : Mem, M19 = upI M13 92 (x1.toNatClampNeg) (M13.1 92 x1.toNatClampNeg) → P_X11_measure_66 G x1 x2 x3 (x4 + 1) M19 Q))))))))))))))))))))) ∧ (¬ ((x3 >>> (x4 &&& 31)) &&& 1) = 1 → P_X11_measure_66 G x1 x2 x3 (x4 + 1) M Q))) ∧ (¬ x4 < (M.1 71 20) → P_X11_measure_16 G (x1 + 1) M Q))) : P_X11_measure_66 G x1 x2 x3 x4 M Q := by
  refine wp_iload dX11_measure_66 rfl ?_
  refine wp_aload_n dX11_measure_68 rfl rfl ?_
  refine wp_getI dX11_measure_69 rfl fb_11_20 m_4_175 ?_
  refine wp_icmp_ge (tgt := 208) dX11_measure_72 (by decide) (fun c1 => ?_) (fun c1 => ?_)
  · replace h := h.2 c1
    refine wp_iinc (v := (x1 + 1)) (ls' := [some (.ref (ad G 71)), some (.int (x1 + 1)), some (.int x2), some (.int x3), some (.int x4), none, none]) dX11_measure_208 rfl rfl (by decide) rfl rfl ?_
    refine wp_goto (tgt := 16) dX11_measure_211 (by decide) ?_
    exact wp_mask [true, true, false, false, false, false, false] rfl h
  · replace h := h.1 c1
    refine wp_iload_n dX11_measure_75 rfl rfl ?_
    refine wp_iload dX11_measure_76 rfl ?_
    refine wp_ishr dX11_measure_78 ?_
    refine wp_iconst (v := 1) dX11_measure_79 (by decide) ?_
    refine wp_iand dX11_measure_80 ?_
    refine wp_iconst (v := 1) dX11_measure_81 (by decide) ?_
    refine wp_icmp_ne (tgt := 95) dX11_measure_82 (by decide) (fun c2 => ?_) (fun c2 => ?_)
    · replace h := h.2 c2
      refine wp_bipush (v := (-9 : Int32)) dX11_measure_95 (by decide) ?_
      refine wp_istore (ls' := [some (.ref (ad G 71)), some (.int x1), some (.int x2), some (.int x3), some (.int x4), some (.int (-9 : Int32)), none]) dX11_measure_97 (by decide) rfl rfl ?_
      refine wp_iload dX11_measure_99 rfl ?_
      refine wp_bipush (v := (-9 : Int32)) dX11_measure_101 (by decide) ?_
      refine wp_icmp_eq (tgt := 202) dX11_measure_103 (by decide) (fun c3 => ?_) (fun c3 => ?_)
      · refine wp_iinc (v := (x4 + 1)) (ls' := [some (.ref (ad G 71)), some (.int x1), some (.int x2), some (.int x3), some (.int (x4 + 1)), some (.int (-9 : Int32)), none]) dX11_measure_202 rfl rfl (by decide) rfl rfl ?_
        refine wp_goto (tgt := 66) dX11_measure_205 (by decide) ?_
        exact wp_mask [true, true, true, true, true, false, false] rfl h
      · exact absurd c3 (by decide)
    · replace h := h.1 c2
      refine wp_aload_n dX11_measure_85 rfl rfl ?_
      refine wp_iload_n dX11_measure_86 rfl rfl ?_
      refine wp_iload dX11_measure_87 rfl ?_
      refine wp_callVI (a := 71) (d1 := 4) (As := [.int x2, .int x4]) (st := []) dX11_measure_89 rfl cm_X11_pairOf m_5_140 (by decide) rfl (Nat.le_of_ble_eq_true rfl) rfl h ?_
      intro r5 M4 h
      refine wp_goto (tgt := 97) dX11_measure_92 (by decide) ?_
      refine wp_istore (ls' := [some (.ref (ad G 71)), some (.int x1), some (.int x2), some (.int x3), some (.int x4), some (.int r5), none]) dX11_measure_97 (by decide) rfl rfl ?_
      refine wp_iload dX11_measure_99 rfl ?_
      refine wp_bipush (v := (-9 : Int32)) dX11_measure_101 (by decide) ?_
      refine wp_icmp_eq (tgt := 202) dX11_measure_103 (by decide) (fun c6 => ?_) (fun c6 => ?_)
      · replace h := h.1 c6
        refine wp_iinc (v := (x4 + 1)) (ls' := [some (.ref (ad G 71)), some (.int x1), some (.int x2), some (.int x3), some (.int (x4 + 1)), some (.int r5), none]) dX11_measure_202 rfl rfl (by decide) rfl rfl ?_
        refine wp_goto (tgt := 66) dX11_measure_205 (by decide) ?_
        exact wp_mask [true, true, true, true, true, false, false] rfl h
      · replace h := h.2 c6
        refine wp_iload_n dX11_measure_106 rfl rfl ?_
        refine wp_iconst (v := 1) dX11_measure_107 (by decide) ?_
        refine wp_iload dX11_measure_108 rfl ?_
        refine wp_ishl dX11_measure_110 ?_
        refine wp_iconst (v := (-1 : Int32)) dX11_measure_111 (by decide) ?_
        refine wp_ixor dX11_measure_112 ?_
        refine wp_iand dX11_measure_113 ?_
        refine wp_topI (fun y7 hy7 => ?_)
        replace h := h y7 hy7
        refine wp_istore (ls' := [some (.ref (ad G 71)), some (.int x1), some (.int x2), some (.int x3), some (.int x4), some (.int r5), some (.int y7)]) dX11_measure_114 (by decide) rfl rfl ?_
        refine wp_aload_n dX11_measure_116 rfl rfl ?_
        refine wp_getR (b := 91) dX11_measure_117 rfl rfl fb_11_31 m_4_186 ?_
        refine wp_iload_n dX11_measure_120 rfl rfl ?_
        refine wp_iload dX11_measure_121 rfl ?_
        refine wp_aload_n dX11_measure_123 rfl rfl ?_
        refine wp_getR (b := 91) dX11_measure_124 rfl rfl fb_11_31 m_4_186 ?_
        refine wp_iload dX11_measure_127 rfl ?_
        obtain ⟨b8, h⟩ := h
        refine wp_iald (n := 256) dX11_measure_129 rfl rfl b8 ?_
        refine wp_iadd dX11_measure_130 ?_
        refine wp_aload_n dX11_measure_131 rfl rfl ?_
        refine wp_getR (b := 91) dX11_measure_132 rfl rfl fb_11_31 m_4_186 ?_
        refine wp_iload_n dX11_measure_135 rfl rfl ?_
        obtain ⟨b9, h⟩ := h
        refine wp_iald (n := 256) dX11_measure_136 rfl rfl b9 ?_
        refine wp_icmp_le (tgt := 153) dX11_measure_137 (by decide) (fun c10 => ?_) (fun c10 => ?_)
        · replace h := h.2 c10
          refine wp_aload_n dX11_measure_153 rfl rfl ?_
          refine wp_getR (b := 91) dX11_measure_154 rfl rfl fb_11_31 m_4_186 ?_
          refine wp_iload_n dX11_measure_157 rfl rfl ?_
          obtain ⟨b11, h⟩ := h
          refine wp_iald (n := 256) dX11_measure_158 rfl rfl b11 ?_
          obtain ⟨b12, h⟩ := h
          refine wp_iast (n := 256) dX11_measure_159 rfl rfl b12 ?_
          refine wp_topM (fun M13 hM13 => ?_)
          replace h := h M13 hM13
          refine wp_aload_n dX11_measure_160 rfl rfl ?_
          refine wp_getR (b := 92) dX11_measure_161 rfl rfl fb_11_32 m_4_187 ?_
          refine wp_iload_n dX11_measure_164 rfl rfl ?_
          refine wp_iconst (v := 1) dX11_measure_165 (by decide) ?_
          refine wp_aload_n dX11_measure_166 rfl rfl ?_
          refine wp_getR (b := 92) dX11_measure_167 rfl rfl fb_11_32 m_4_187 ?_
          refine wp_iload dX11_measure_170 rfl ?_
          obtain ⟨b14, h⟩ := h
          refine wp_iald (n := 256) dX11_measure_172 rfl rfl b14 ?_
          refine wp_iadd dX11_measure_173 ?_
          refine wp_aload_n dX11_measure_174 rfl rfl ?_
          refine wp_getR (b := 92) dX11_measure_175 rfl rfl fb_11_32 m_4_187 ?_
          refine wp_iload_n dX11_measure_178 rfl rfl ?_
          obtain ⟨b15, h⟩ := h
          refine wp_iald (n := 256) dX11_measure_179 rfl rfl b15 ?_
          refine wp_icmp_le (tgt := 195) dX11_measure_180 (by decide) (fun c16 => ?_) (fun c16 => ?_)
          · replace h := h.2 c16
            refine wp_aload_n dX11_measure_195 rfl rfl ?_
            refine wp_getR (b := 92) dX11_measure_196 rfl rfl fb_11_32 m_4_187 ?_
            refine wp_iload_n dX11_measure_199 rfl rfl ?_
            obtain ⟨b17, h⟩ := h
            refine wp_iald (n := 256) dX11_measure_200 rfl rfl b17 ?_
            obtain ⟨b18, h⟩ := h
            refine wp_iast (n := 256) dX11_measure_201 rfl rfl b18 ?_
            refine wp_topM (fun M19 hM19 => ?_)
            replace h := h M19 hM19
            refine wp_iinc (v := (x4 + 1)) (ls' := [some (.ref (ad G 71)), some (.int x1), some (.int x2), some (.int x3), some (.int (x4 + 1)), some (.int r5), some (.int y7)]) dX11_measure_202 rfl rfl (by decide) rfl rfl ?_
            refine wp_goto (tgt := 66) dX11_measure_205 (by decide) ?_
            exact wp_mask [true, true, true, true, true, false, false] rfl h
          · replace h := h.1 c16
            refine wp_iconst (v := 1) dX11_measure_183 (by decide) ?_
            refine wp_aload_n dX11_measure_184 rfl rfl ?_
            refine wp_getR (b := 92) dX11_measure_185 rfl rfl fb_11_32 m_4_187 ?_
            refine wp_iload dX11_measure_188 rfl ?_
            obtain ⟨b20, h⟩ := h
            refine wp_iald (n := 256) dX11_measure_190 rfl rfl b20 ?_
            refine wp_iadd dX11_measure_191 ?_
            refine wp_goto (tgt := 201) dX11_measure_192 (by decide) ?_
            obtain ⟨b21, h⟩ := h
            refine wp_iast (n := 256) dX11_measure_201 rfl rfl b21 ?_
            refine wp_topM (fun M22 hM22 => ?_)
            replace h := h M22 hM22
            refine wp_iinc (v := (x4 + 1)) (ls' := [some (.ref (ad G 71)), some (.int x1), some (.int x2), some (.int x3), some (.int (x4 + 1)), some (.int r5), some (.int y7)]) dX11_measure_202 rfl rfl (by decide) rfl rfl ?_
            refine wp_goto (tgt := 66) dX11_measure_205 (by decide) ?_
            exact wp_mask [true, true, true, true, true, false, false] rfl h
        · replace h := h.1 c10
          refine wp_iload dX11_measure_140 rfl ?_
          refine wp_aload_n dX11_measure_142 rfl rfl ?_
          refine wp_getR (b := 91) dX11_measure_143 rfl rfl fb_11_31 m_4_186 ?_
          refine wp_iload dX11_measure_146 rfl ?_
          obtain ⟨b23, h⟩ := h
          refine wp_iald (n := 256) dX11_measure_148 rfl rfl b23 ?_
          refine wp_iadd dX11_measure_149 ?_
          refine wp_goto (tgt := 159) dX11_measure_150 (by decide) ?_
          obtain ⟨b24, h⟩ := h
          refine wp_iast (n := 256) dX11_measure_159 rfl rfl b24 ?_
          refine wp_topM (fun M25 hM25 => ?_)
          replace h := h M25 hM25
          refine wp_aload_n dX11_measure_160 rfl rfl ?_
          refine wp_getR (b := 92) dX11_measure_161 rfl rfl fb_11_32 m_4_187 ?_
          refine wp_iload_n dX11_measure_164 rfl rfl ?_
          refine wp_iconst (v := 1) dX11_measure_165 (by decide) ?_
          refine wp_aload_n dX11_measure_166 rfl rfl ?_
          refine wp_getR (b := 92) dX11_measure_167 rfl rfl fb_11_32 m_4_187 ?_
          refine wp_iload dX11_measure_170 rfl ?_
          obtain ⟨b26, h⟩ := h
          refine wp_iald (n := 256) dX11_measure_172 rfl rfl b26 ?_
          refine wp_iadd dX11_measure_173 ?_
          refine wp_aload_n dX11_measure_174 rfl rfl ?_
          refine wp_getR (b := 92) dX11_measure_175 rfl rfl fb_11_32 m_4_187 ?_
          refine wp_iload_n dX11_measure_178 rfl rfl ?_
          obtain ⟨b27, h⟩ := h
          refine wp_iald (n := 256) dX11_measure_179 rfl rfl b27 ?_
          refine wp_icmp_le (tgt := 195) dX11_measure_180 (by decide) (fun c28 => ?_) (fun c28 => ?_)
          · replace h := h.2 c28
            refine wp_aload_n dX11_measure_195 rfl rfl ?_
            refine wp_getR (b := 92) dX11_measure_196 rfl rfl fb_11_32 m_4_187 ?_
            refine wp_iload_n dX11_measure_199 rfl rfl ?_
            obtain ⟨b29, h⟩ := h
            refine wp_iald (n := 256) dX11_measure_200 rfl rfl b29 ?_
            obtain ⟨b30, h⟩ := h
            refine wp_iast (n := 256) dX11_measure_201 rfl rfl b30 ?_
            refine wp_topM (fun M31 hM31 => ?_)
            replace h := h M31 hM31
            refine wp_iinc (v := (x4 + 1)) (ls' := [some (.ref (ad G 71)), some (.int x1), some (.int x2), some (.int x3), some (.int (x4 + 1)), some (.int r5), some (.int y7)]) dX11_measure_202 rfl rfl (by decide) rfl rfl ?_
            refine wp_goto (tgt := 66) dX11_measure_205 (by decide) ?_
            exact wp_mask [true, true, true, true, true, false, false] rfl h
          · replace h := h.1 c28
            refine wp_iconst (v := 1) dX11_measure_183 (by decide) ?_
            refine wp_aload_n dX11_measure_184 rfl rfl ?_
            refine wp_getR (b := 92) dX11_measure_185 rfl rfl fb_11_32 m_4_187 ?_
            refine wp_iload dX11_measure_188 rfl ?_
            obtain ⟨b32, h⟩ := h
            refine wp_iald (n := 256) dX11_measure_190 rfl rfl b32 ?_
            refine wp_iadd dX11_measure_191 ?_
            refine wp_goto (tgt := 201) dX11_measure_192 (by decide) ?_
            obtain ⟨b33, h⟩ := h
            refine wp_iast (n := 256) dX11_measure_201 rfl rfl b33 ?_
            refine wp_topM (fun M34 hM34 => ?_)
            replace h := h M34 hM34
            refine wp_iinc (v := (x4 + 1)) (ls' := [some (.ref (ad G 71)), some (.int x1), some (.int x2), some (.int x3), some (.int (x4 + 1)), some (.int r5), some (.int y7)]) dX11_measure_202 rfl rfl (by decide) rfl rfl ?_
            refine wp_goto (tgt := 66) dX11_measure_205 (by decide) ?_
            exact wp_mask [true, true, true, true, true, false, false] rfl h
abbrev C_X11_measure (G : Glob)  (M : Mem) (Q : Option Value → Mem → Prop) : Prop := WpM G 5 Y_X11_measure [.ref (ad G 71)] M Q
set_option maxRecDepth 20000 in
theorem v_X11_measure {G : Glob} {M : Mem} {Q : Option Value → Mem → Prop}  (h : (vp_in 0 256 ∧ (∀ M2 : Mem, M2 = upI M 91 ((0 : Int32).toNatClampNeg) 0 → (vp_in 0 256 ∧ (∀ M4 : Mem, M4 = upI M2 92 ((0 : Int32).toNatClampNeg) 0 → P_X11_measure_16 G 1 M4 Q))))) : C_X11_measure G  M Q := by
  refine wp_enter (ls0 := [some (.ref (ad G 71)), none, none, none, none, none, none]) (by decide +kernel) (Nat.le_of_ble_eq_true rfl) rfl ?_
  refine wp_aload_n dX11_measure_0 rfl rfl ?_
  refine wp_getR (b := 91) dX11_measure_1 rfl rfl fb_11_31 m_4_186 ?_
  refine wp_iconst (v := 0) dX11_measure_4 (by decide) ?_
  refine wp_iconst (v := 0) dX11_measure_5 (by decide) ?_
  obtain ⟨b1, h⟩ := h
  refine wp_iast (n := 256) dX11_measure_6 rfl rfl b1 ?_
  refine wp_topM (fun M2 hM2 => ?_)
  replace h := h M2 hM2
  refine wp_aload_n dX11_measure_7 rfl rfl ?_
  refine wp_getR (b := 92) dX11_measure_8 rfl rfl fb_11_32 m_4_187 ?_
  refine wp_iconst (v := 0) dX11_measure_11 (by decide) ?_
  refine wp_iconst (v := 0) dX11_measure_12 (by decide) ?_
  obtain ⟨b3, h⟩ := h
  refine wp_iast (n := 256) dX11_measure_13 rfl rfl b3 ?_
  refine wp_topM (fun M4 hM4 => ?_)
  replace h := h M4 hM4
  refine wp_iconst (v := 1) dX11_measure_14 (by decide) ?_
  refine wp_istore_n (ls' := [some (.ref (ad G 71)), some (.int 1), none, none, none, none, none]) dX11_measure_15 rfl (by decide) rfl rfl ?_
  exact h
abbrev C_X11_good (G : Glob) (x1 : Int32) (M : Mem) (Q : Option Value → Mem → Prop) : Prop := WpM G 6 Y_X11_good [.ref (ad G 71), .int x1] M Q
set_option maxRecDepth 20000 in
theorem v_X11_good {G : Glob} {x1 : Int32} {M : Mem} {Q : Option Value → Mem → Prop}  (h : (WpM G 1 Y_X11_all [.ref (ad G 71)] M (RI (fun r2 M1 => (WpM G 1 Y_X11_in [.int x1, .int 0, .int r2] M1 (RI (fun r4 M3 => ((r4 = 0 → Q (some (.int (-1 : Int32))) M3) ∧ (¬ r4 = 0 → (WpM G 5 Y_X11_measure [.ref (ad G 71)] M3 (RV (fun M6 => (vp_in x1 256 ∧ (∀ M8 : Mem, M8 = upI M6 71 0 (M6.1 92 x1.toNatClampNeg) → (vp_in x1 256 ∧ Q (some (.int (M8.1 91 x1.toNatClampNeg))) M8))))))))))))))) : C_X11_good G x1 M Q := by
  refine wp_enter (ls0 := [some (.ref (ad G 71)), some (.int x1)]) (by decide +kernel) (Nat.le_of_ble_eq_true rfl) rfl ?_
  refine wp_iload_n dX11_good_0 rfl rfl ?_
  refine wp_iconst (v := 0) dX11_good_1 (by decide) ?_
  refine wp_aload_n dX11_good_2 rfl rfl ?_
  refine wp_callVI (a := 71) (d1 := 1) (As := []) (st := [.int 0, .int x1]) dX11_good_3 rfl cm_X11_all m_5_206 (by decide) rfl (Nat.le_of_ble_eq_true rfl) rfl h ?_
  intro r2 M1 h
  refine wp_callSI (d1 := 1) (As := [.int x1, .int 0, .int r2]) (st := []) dX11_good_6 cm_X11_in m_5_32 (by decide) rfl (Nat.le_of_ble_eq_true rfl) rfl h ?_
  intro r4 M3 h
  refine wp_if_ne (tgt := 14) dX11_good_9 (by decide) (fun c5 => ?_) (fun c5 => ?_)
  · replace h := h.2 c5
    refine wp_aload_n dX11_good_14 rfl rfl ?_
    refine wp_callVV (a := 71) (d1 := 5) (As := []) (st := []) dX11_good_15 rfl cm_X11_measure m_5_210 (by decide) rfl (Nat.le_of_ble_eq_true rfl) rfl h ?_
    intro M6 h
    refine wp_aload_n dX11_good_18 rfl rfl ?_
    refine wp_aload_n dX11_good_19 rfl rfl ?_
    refine wp_getR (b := 92) dX11_good_20 rfl rfl fb_11_32 m_4_187 ?_
    refine wp_iload_n dX11_good_23 rfl rfl ?_
    obtain ⟨b7, h⟩ := h
    refine wp_iald (n := 256) dX11_good_24 rfl rfl b7 ?_
    refine wp_putI dX11_good_25 rfl fp_11_0 m_4_155 ?_
    refine wp_topM (fun M8 hM8 => ?_)
    replace h := h M8 hM8
    refine wp_aload_n dX11_good_28 rfl rfl ?_
    refine wp_getR (b := 91) dX11_good_29 rfl rfl fb_11_31 m_4_186 ?_
    refine wp_iload_n dX11_good_32 rfl rfl ?_
    obtain ⟨b9, h⟩ := h
    refine wp_iald (n := 256) dX11_good_33 rfl rfl b9 ?_
    exact wp_iret (ty := .int) dX11_good_34 rfl rfl h
  · replace h := h.1 c5
    refine wp_iconst (v := (-1 : Int32)) dX11_good_12 (by decide) ?_
    exact wp_iret (ty := .int) dX11_good_13 rfl rfl h
abbrev P_X11_pairs_34 (G : Glob) (x1 : Int32) (x2 : Int32) (M : Mem) (Q : Option Value → Mem → Prop) : Prop := Wp G 6 Y_X11_pairs 34 [some (.ref (ad G 71)), some (.int x1), some (.int x2), none, none, none, none, none, none] [] M Q
abbrev P_X11_pairs_74 (G : Glob) (x1 : Int32) (x2 : Int32) (x3 : Int32) (M : Mem) (Q : Option Value → Mem → Prop) : Prop := Wp G 6 Y_X11_pairs 74 [some (.ref (ad G 71)), some (.int x1), some (.int x2), some (.int x3), none, none, none, none, none] [] M Q
abbrev P_X11_pairs_106 (G : Glob) (x1 : Int32) (x2 : Int32) (x3 : Int32) (x4 : Int32) (x5 : Int32) (x6 : Int32) (x7 : Int32) (M : Mem) (Q : Option Value → Mem → Prop) : Prop := Wp G 6 Y_X11_pairs 106 [some (.ref (ad G 71)), some (.int x1), some (.int x2), some (.int x3), some (.int x4), some (.int x5), some (.int x6), some (.int x7), none] [] M Q
set_option maxRecDepth 20000 in
theorem v_X11_pairs_34 {G : Glob} {x1 : Int32} {x2 : Int32} {M : Mem} {Q : Option Value → Mem → Prop}  (h : ((x2 < (M.1 71 20) → (vp_in ((40 * x1) + x2) 240 ∧ (∀ M7 : Mem, M7 = upI M 73 (((40 * x1) + x2).toNatClampNeg) (-9 : Int32) → P_X11_pairs_34 G x1 (x2 + 1) M7 Q))) ∧ (¬ x2 < (M.1 71 20) → (WpM G 1 Y_X11_setIn [.ref (ad G 71), .int 0] M (RI (fun r3 M2 => (vp_in r3 256 ∧ (∀ y5 : Int32, y5 = (M2.1 91 r3.toNatClampNeg) → P_X11_pairs_74 G x1 r3 y5 M2 Q)))))))) : P_X11_pairs_34 G x1 x2 M Q := by
  refine wp_iload_n dX11_pairs_34 rfl rfl ?_
  refine wp_aload_n dX11_pairs_35 rfl rfl ?_
  refine wp_getI dX11_pairs_36 rfl fb_11_20 m_4_175 ?_
  refine wp_icmp_ge (tgt := 61) dX11_pairs_39 (by decide) (fun c1 => ?_) (fun c1 => ?_)
  · replace h := h.2 c1
    refine wp_aload_n dX11_pairs_61 rfl rfl ?_
    refine wp_iconst (v := 0) dX11_pairs_62 (by decide) ?_
    refine wp_callVI (a := 71) (d1 := 1) (As := [.int 0]) (st := []) dX11_pairs_63 rfl cm_X11_setIn m_5_175 (by decide) rfl (Nat.le_of_ble_eq_true rfl) rfl h ?_
    intro r3 M2 h
    refine wp_istore_n (ls' := [some (.ref (ad G 71)), some (.int x1), some (.int r3), none, none, none, none, none, none]) dX11_pairs_66 rfl (by decide) rfl rfl ?_
    refine wp_aload_n dX11_pairs_67 rfl rfl ?_
    refine wp_getR (b := 91) dX11_pairs_68 rfl rfl fb_11_31 m_4_186 ?_
    refine wp_iload_n dX11_pairs_71 rfl rfl ?_
    obtain ⟨b4, h⟩ := h
    refine wp_iald (n := 256) dX11_pairs_72 rfl rfl b4 ?_
    refine wp_topI (fun y5 hy5 => ?_)
    replace h := h y5 hy5
    refine wp_istore_n (ls' := [some (.ref (ad G 71)), some (.int x1), some (.int r3), some (.int y5), none, none, none, none, none]) dX11_pairs_73 rfl (by decide) rfl rfl ?_
    exact h
  · replace h := h.1 c1
    refine wp_aload_n dX11_pairs_42 rfl rfl ?_
    refine wp_getR (b := 73) dX11_pairs_43 rfl rfl fb_11_5 m_4_160 ?_
    refine wp_bipush (v := 40) dX11_pairs_46 (by decide) ?_
    refine wp_iload_n dX11_pairs_48 rfl rfl ?_
    refine wp_imul dX11_pairs_49 ?_
    refine wp_iload_n dX11_pairs_50 rfl rfl ?_
    refine wp_iadd dX11_pairs_51 ?_
    refine wp_bipush (v := (-9 : Int32)) dX11_pairs_52 (by decide) ?_
    obtain ⟨b6, h⟩ := h
    refine wp_iast (n := 240) dX11_pairs_54 rfl rfl b6 ?_
    refine wp_topM (fun M7 hM7 => ?_)
    replace h := h M7 hM7
    refine wp_iinc (v := (x2 + 1)) (ls' := [some (.ref (ad G 71)), some (.int x1), some (.int (x2 + 1)), none, none, none, none, none, none]) dX11_pairs_55 rfl rfl (by decide) rfl rfl ?_
    refine wp_goto (tgt := 34) dX11_pairs_58 (by decide) ?_
    exact h
set_option maxRecDepth 20000 in
theorem v_X11_pairs_74 {G : Glob} {x1 : Int32} {x2 : Int32} {x3 : Int32} {M : Mem} {Q : Option Value → Mem → Prop}  (h : ((x2 = 0 → Q (some (.int x3)) M) ∧ (¬ x2 = 0 → (WpM G 1 Y_X11_lowestOf [.int x2] M (RI (fun r3 M2 => (∀ y4 : Int32, y4 = (x2 &&& ((1 <<< (r3 &&& 31)) ^^^ (-1 : Int32))) → P_X11_pairs_106 G x1 x2 x3 r3 y4 (-9 : Int32) ((M2.1 71 20) - 1) M2 Q))))))) : P_X11_pairs_74 G x1 x2 x3 M Q := by
  refine wp_iload_n dX11_pairs_74 rfl rfl ?_
  refine wp_if_eq (tgt := 255) dX11_pairs_75 (by decide) (fun c1 => ?_) (fun c1 => ?_)
  · replace h := h.1 c1
    refine wp_iload_n dX11_pairs_255 rfl rfl ?_
    exact wp_iret (ty := .int) dX11_pairs_256 rfl rfl h
  · replace h := h.2 c1
    refine wp_iload_n dX11_pairs_78 rfl rfl ?_
    refine wp_callSI (d1 := 1) (As := [.int x2]) (st := []) dX11_pairs_79 cm_X11_lowestOf m_5_214 (by decide) rfl (Nat.le_of_ble_eq_true rfl) rfl h ?_
    intro r3 M2 h
    refine wp_istore (ls' := [some (.ref (ad G 71)), some (.int x1), some (.int x2), some (.int x3), some (.int r3), none, none, none, none]) dX11_pairs_82 (by decide) rfl rfl ?_
    refine wp_iload_n dX11_pairs_84 rfl rfl ?_
    refine wp_iconst (v := 1) dX11_pairs_85 (by decide) ?_
    refine wp_iload dX11_pairs_86 rfl ?_
    refine wp_ishl dX11_pairs_88 ?_
    refine wp_iconst (v := (-1 : Int32)) dX11_pairs_89 (by decide) ?_
    refine wp_ixor dX11_pairs_90 ?_
    refine wp_iand dX11_pairs_91 ?_
    refine wp_topI (fun y4 hy4 => ?_)
    replace h := h y4 hy4
    refine wp_istore (ls' := [some (.ref (ad G 71)), some (.int x1), some (.int x2), some (.int x3), some (.int r3), some (.int y4), none, none, none]) dX11_pairs_92 (by decide) rfl rfl ?_
    refine wp_bipush (v := (-9 : Int32)) dX11_pairs_94 (by decide) ?_
    refine wp_istore (ls' := [some (.ref (ad G 71)), some (.int x1), some (.int x2), some (.int x3), some (.int r3), some (.int y4), some (.int (-9 : Int32)), none, none]) dX11_pairs_96 (by decide) rfl rfl ?_
    refine wp_aload_n dX11_pairs_98 rfl rfl ?_
    refine wp_getI dX11_pairs_99 rfl fb_11_20 m_4_175 ?_
    refine wp_iconst (v := 1) dX11_pairs_102 (by decide) ?_
    refine wp_isub dX11_pairs_103 ?_
    refine wp_istore (ls' := [some (.ref (ad G 71)), some (.int x1), some (.int x2), some (.int x3), some (.int r3), some (.int y4), some (.int (-9 : Int32)), some (.int ((M2.1 71 20) - 1)), none]) dX11_pairs_104 (by decide) rfl rfl ?_
    exact h
set_option maxRecDepth 20000 in
theorem v_X11_pairs_106 {G : Glob} {x1 : Int32} {x2 : Int32} {x3 : Int32} {x4 : Int32} {x5 : Int32} {x6 : Int32} {x7 : Int32} {M : Mem} {Q : Option Value → Mem → Prop}  (h : ((x4 < x7 → (vp_in x5 256 ∧ (vp_in x2 256 ∧ (((M.1 91 x5.toNatClampNeg) = (M.1 91 x2.toNatClampNeg) → ((x6 = (-9 : Int32) → P_X11_pairs_74 G x1 x5 x3 M Q) ∧ (¬ x6 = (-9 : Int32) → (vp_in ((40 * x1) + x4) 240 ∧ (∀ M13 : Mem, M13 = upI M 73 (((40 * x1) + x4).toNatClampNeg) x6 → (vp_in ((40 * x1) + x6) 240 ∧ (∀ M15 : Mem, M15 = upI M13 73 (((40 * x1) + x6).toNatClampNeg) x4 → (∀ y16 : Int32, y16 = (x5 &&& ((1 <<< (x6 &&& 31)) ^^^ (-1 : Int32))) → P_X11_pairs_74 G x1 y16 x3 M15 Q)))))))) ∧ (¬ (M.1 91 x5.toNatClampNeg) = (M.1 91 x2.toNatClampNeg) → ((((x5 >>> (x7 &&& 31)) &&& 1) = 1 → (WpM G 4 Y_X11_pairOf [.ref (ad G 71), .int x4, .int x7] M (RI (fun r20 M19 => ((r20 = (-9 : Int32) → P_X11_pairs_106 G x1 x2 x3 x4 x5 x6 (x7 + (-1 : Int32)) M19 Q) ∧ (¬ r20 = (-9 : Int32) → (vp_in (x5 &&& ((1 <<< (x7 &&& 31)) ^^^ (-1 : Int32))) 256 ∧ (vp_in x2 256 ∧ (((r20 + (M19.1 91 (x5 &&& ((1 <<< (x7 &&& 31)) ^^^ (-1 : Int32))).toNatClampNeg)) = (M19.1 91 x2.toNatClampNeg) → P_X11_pairs_106 G x1 x2 x3 x4 x5 x7 (x7 + (-1 : Int32)) M19 Q) ∧ (¬ (r20 + (M19.1 91 (x5 &&& ((1 <<< (x7 &&& 31)) ^^^ (-1 : Int32))).toNatClampNeg)) = (M19.1 91 x2.toNatClampNeg) → P_X11_pairs_106 G x1 x2 x3 x4 x5 x6 (x7 + (-1 : Int32)) M19 Q)))))))))) ∧ (¬ ((x5 >>> (x7 &&& 31)) &&& 1) = 1 → P_X11_pairs_106 G x1 x2 x3 x4 x5 x6 (x7 + (-1 : Int32)) M Q))))))) ∧ (¬ x4 < x7 → ((x6 = (-9 : Int32) → P_X11_pairs_74 G x1 x5 x3 M Q) ∧ (¬ x6 = (-9 : Int32) → (vp_in ((40 * x1) + x4) 240 ∧ (∀ M4 : Mem, M4 = upI M 73 (((40 * x1) + x4).toNatClampNeg) x6 → (vp_in ((40 * x1) + x6) 240 ∧ (∀ M6 : Mem, M6 = upI M4 73 (((40 * x1) + x6).toNatClampNeg) x4 → (∀ y7 : Int32, y7 = (x5 &&& ((1 <<< (x6 &&& 31)) ^^^ (-1 : Int32))) → P_X11_pairs_74 G x1 y7 x3 M6 Q)))))))))) : P_X11_pairs_106 G x1 x2 x3 x4 x5 x6 x7 M Q := by
  refine wp_iload dX11_pairs_106 rfl ?_
  refine wp_iload dX11_pairs_108 rfl ?_
  refine wp_icmp_le (tgt := 203) dX11_pairs_110 (by decide) (fun c1 => ?_) (fun c1 => ?_)
  · replace h := h.2 c1
    refine wp_iload dX11_pairs_203 rfl ?_
    refine wp_bipush (v := (-9 : Int32)) dX11_pairs_205 (by decide) ?_
    refine wp_icmp_eq (tgt := 249) dX11_pairs_207 (by decide) (fun c2 => ?_) (fun c2 => ?_)
    · replace h := h.1 c2
      refine wp_iload dX11_pairs_249 rfl ?_
      refine wp_istore_n (ls' := [some (.ref (ad G 71)), some (.int x1), some (.int x5), some (.int x3), some (.int x4), some (.int x5), some (.int x6), some (.int x7), none]) dX11_pairs_251 rfl (by decide) rfl rfl ?_
      refine wp_goto (tgt := 74) dX11_pairs_252 (by decide) ?_
      exact wp_mask [true, true, true, true, false, false, false, false, false] rfl h
    · replace h := h.2 c2
      refine wp_aload_n dX11_pairs_210 rfl rfl ?_
      refine wp_getR (b := 73) dX11_pairs_211 rfl rfl fb_11_5 m_4_160 ?_
      refine wp_bipush (v := 40) dX11_pairs_214 (by decide) ?_
      refine wp_iload_n dX11_pairs_216 rfl rfl ?_
      refine wp_imul dX11_pairs_217 ?_
      refine wp_iload dX11_pairs_218 rfl ?_
      refine wp_iadd dX11_pairs_220 ?_
      refine wp_iload dX11_pairs_221 rfl ?_
      obtain ⟨b3, h⟩ := h
      refine wp_iast (n := 240) dX11_pairs_223 rfl rfl b3 ?_
      refine wp_topM (fun M4 hM4 => ?_)
      replace h := h M4 hM4
      refine wp_aload_n dX11_pairs_224 rfl rfl ?_
      refine wp_getR (b := 73) dX11_pairs_225 rfl rfl fb_11_5 m_4_160 ?_
      refine wp_bipush (v := 40) dX11_pairs_228 (by decide) ?_
      refine wp_iload_n dX11_pairs_230 rfl rfl ?_
      refine wp_imul dX11_pairs_231 ?_
      refine wp_iload dX11_pairs_232 rfl ?_
      refine wp_iadd dX11_pairs_234 ?_
      refine wp_iload dX11_pairs_235 rfl ?_
      obtain ⟨b5, h⟩ := h
      refine wp_iast (n := 240) dX11_pairs_237 rfl rfl b5 ?_
      refine wp_topM (fun M6 hM6 => ?_)
      replace h := h M6 hM6
      refine wp_iload dX11_pairs_238 rfl ?_
      refine wp_iconst (v := 1) dX11_pairs_240 (by decide) ?_
      refine wp_iload dX11_pairs_241 rfl ?_
      refine wp_ishl dX11_pairs_243 ?_
      refine wp_iconst (v := (-1 : Int32)) dX11_pairs_244 (by decide) ?_
      refine wp_ixor dX11_pairs_245 ?_
      refine wp_iand dX11_pairs_246 ?_
      refine wp_topI (fun y7 hy7 => ?_)
      replace h := h y7 hy7
      refine wp_istore (ls' := [some (.ref (ad G 71)), some (.int x1), some (.int x2), some (.int x3), some (.int x4), some (.int y7), some (.int x6), some (.int x7), none]) dX11_pairs_247 (by decide) rfl rfl ?_
      refine wp_iload dX11_pairs_249 rfl ?_
      refine wp_istore_n (ls' := [some (.ref (ad G 71)), some (.int x1), some (.int y7), some (.int x3), some (.int x4), some (.int y7), some (.int x6), some (.int x7), none]) dX11_pairs_251 rfl (by decide) rfl rfl ?_
      refine wp_goto (tgt := 74) dX11_pairs_252 (by decide) ?_
      exact wp_mask [true, true, true, true, false, false, false, false, false] rfl h
  · replace h := h.1 c1
    refine wp_aload_n dX11_pairs_113 rfl rfl ?_
    refine wp_getR (b := 91) dX11_pairs_114 rfl rfl fb_11_31 m_4_186 ?_
    refine wp_iload dX11_pairs_117 rfl ?_
    obtain ⟨b8, h⟩ := h
    refine wp_iald (n := 256) dX11_pairs_119 rfl rfl b8 ?_
    refine wp_aload_n dX11_pairs_120 rfl rfl ?_
    refine wp_getR (b := 91) dX11_pairs_121 rfl rfl fb_11_31 m_4_186 ?_
    refine wp_iload_n dX11_pairs_124 rfl rfl ?_
    obtain ⟨b9, h⟩ := h
    refine wp_iald (n := 256) dX11_pairs_125 rfl rfl b9 ?_
    refine wp_icmp_eq (tgt := 203) dX11_pairs_126 (by decide) (fun c10 => ?_) (fun c10 => ?_)
    · replace h := h.1 c10
      refine wp_iload dX11_pairs_203 rfl ?_
      refine wp_bipush (v := (-9 : Int32)) dX11_pairs_205 (by decide) ?_
      refine wp_icmp_eq (tgt := 249) dX11_pairs_207 (by decide) (fun c11 => ?_) (fun c11 => ?_)
      · replace h := h.1 c11
        refine wp_iload dX11_pairs_249 rfl ?_
        refine wp_istore_n (ls' := [some (.ref (ad G 71)), some (.int x1), some (.int x5), some (.int x3), some (.int x4), some (.int x5), some (.int x6), some (.int x7), none]) dX11_pairs_251 rfl (by decide) rfl rfl ?_
        refine wp_goto (tgt := 74) dX11_pairs_252 (by decide) ?_
        exact wp_mask [true, true, true, true, false, false, false, false, false] rfl h
      · replace h := h.2 c11
        refine wp_aload_n dX11_pairs_210 rfl rfl ?_
        refine wp_getR (b := 73) dX11_pairs_211 rfl rfl fb_11_5 m_4_160 ?_
        refine wp_bipush (v := 40) dX11_pairs_214 (by decide) ?_
        refine wp_iload_n dX11_pairs_216 rfl rfl ?_
        refine wp_imul dX11_pairs_217 ?_
        refine wp_iload dX11_pairs_218 rfl ?_
        refine wp_iadd dX11_pairs_220 ?_
        refine wp_iload dX11_pairs_221 rfl ?_
        obtain ⟨b12, h⟩ := h
        refine wp_iast (n := 240) dX11_pairs_223 rfl rfl b12 ?_
        refine wp_topM (fun M13 hM13 => ?_)
        replace h := h M13 hM13
        refine wp_aload_n dX11_pairs_224 rfl rfl ?_
        refine wp_getR (b := 73) dX11_pairs_225 rfl rfl fb_11_5 m_4_160 ?_
        refine wp_bipush (v := 40) dX11_pairs_228 (by decide) ?_
        refine wp_iload_n dX11_pairs_230 rfl rfl ?_
        refine wp_imul dX11_pairs_231 ?_
        refine wp_iload dX11_pairs_232 rfl ?_
        refine wp_iadd dX11_pairs_234 ?_
        refine wp_iload dX11_pairs_235 rfl ?_
        obtain ⟨b14, h⟩ := h
        refine wp_iast (n := 240) dX11_pairs_237 rfl rfl b14 ?_
        refine wp_topM (fun M15 hM15 => ?_)
        replace h := h M15 hM15
        refine wp_iload dX11_pairs_238 rfl ?_
        refine wp_iconst (v := 1) dX11_pairs_240 (by decide) ?_
        refine wp_iload dX11_pairs_241 rfl ?_
        refine wp_ishl dX11_pairs_243 ?_
        refine wp_iconst (v := (-1 : Int32)) dX11_pairs_244 (by decide) ?_
        refine wp_ixor dX11_pairs_245 ?_
        refine wp_iand dX11_pairs_246 ?_
        refine wp_topI (fun y16 hy16 => ?_)
        replace h := h y16 hy16
        refine wp_istore (ls' := [some (.ref (ad G 71)), some (.int x1), some (.int x2), some (.int x3), some (.int x4), some (.int y16), some (.int x6), some (.int x7), none]) dX11_pairs_247 (by decide) rfl rfl ?_
        refine wp_iload dX11_pairs_249 rfl ?_
        refine wp_istore_n (ls' := [some (.ref (ad G 71)), some (.int x1), some (.int y16), some (.int x3), some (.int x4), some (.int y16), some (.int x6), some (.int x7), none]) dX11_pairs_251 rfl (by decide) rfl rfl ?_
        refine wp_goto (tgt := 74) dX11_pairs_252 (by decide) ?_
        exact wp_mask [true, true, true, true, false, false, false, false, false] rfl h
    · replace h := h.2 c10
      refine wp_iload dX11_pairs_129 rfl ?_
      refine wp_iload dX11_pairs_131 rfl ?_
      refine wp_ishr dX11_pairs_133 ?_
      refine wp_iconst (v := 1) dX11_pairs_134 (by decide) ?_
      refine wp_iand dX11_pairs_135 ?_
      refine wp_iconst (v := 1) dX11_pairs_136 (by decide) ?_
      refine wp_icmp_ne (tgt := 151) dX11_pairs_137 (by decide) (fun c17 => ?_) (fun c17 => ?_)
      · replace h := h.2 c17
        refine wp_bipush (v := (-9 : Int32)) dX11_pairs_151 (by decide) ?_
        refine wp_istore (ls' := [some (.ref (ad G 71)), some (.int x1), some (.int x2), some (.int x3), some (.int x4), some (.int x5), some (.int x6), some (.int x7), some (.int (-9 : Int32))]) dX11_pairs_153 (by decide) rfl rfl ?_
        refine wp_iload dX11_pairs_155 rfl ?_
        refine wp_bipush (v := (-9 : Int32)) dX11_pairs_157 (by decide) ?_
        refine wp_icmp_eq (tgt := 193) dX11_pairs_159 (by decide) (fun c18 => ?_) (fun c18 => ?_)
        · refine wp_iload dX11_pairs_193 rfl ?_
          refine wp_istore (ls' := [some (.ref (ad G 71)), some (.int x1), some (.int x2), some (.int x3), some (.int x4), some (.int x5), some (.int x6), some (.int x7), some (.int (-9 : Int32))]) dX11_pairs_195 (by decide) rfl rfl ?_
          refine wp_iinc (v := (x7 + (-1 : Int32))) (ls' := [some (.ref (ad G 71)), some (.int x1), some (.int x2), some (.int x3), some (.int x4), some (.int x5), some (.int x6), some (.int (x7 + (-1 : Int32))), some (.int (-9 : Int32))]) dX11_pairs_197 rfl rfl (by decide) rfl rfl ?_
          refine wp_goto (tgt := 106) dX11_pairs_200 (by decide) ?_
          exact wp_mask [true, true, true, true, true, true, true, true, false] rfl h
        · exact absurd c18 (by decide)
      · replace h := h.1 c17
        refine wp_aload_n dX11_pairs_140 rfl rfl ?_
        refine wp_iload dX11_pairs_141 rfl ?_
        refine wp_iload dX11_pairs_143 rfl ?_
        refine wp_callVI (a := 71) (d1 := 4) (As := [.int x4, .int x7]) (st := []) dX11_pairs_145 rfl cm_X11_pairOf m_5_140 (by decide) rfl (Nat.le_of_ble_eq_true rfl) rfl h ?_
        intro r20 M19 h
        refine wp_goto (tgt := 153) dX11_pairs_148 (by decide) ?_
        refine wp_istore (ls' := [some (.ref (ad G 71)), some (.int x1), some (.int x2), some (.int x3), some (.int x4), some (.int x5), some (.int x6), some (.int x7), some (.int r20)]) dX11_pairs_153 (by decide) rfl rfl ?_
        refine wp_iload dX11_pairs_155 rfl ?_
        refine wp_bipush (v := (-9 : Int32)) dX11_pairs_157 (by decide) ?_
        refine wp_icmp_eq (tgt := 193) dX11_pairs_159 (by decide) (fun c21 => ?_) (fun c21 => ?_)
        · replace h := h.1 c21
          refine wp_iload dX11_pairs_193 rfl ?_
          refine wp_istore (ls' := [some (.ref (ad G 71)), some (.int x1), some (.int x2), some (.int x3), some (.int x4), some (.int x5), some (.int x6), some (.int x7), some (.int r20)]) dX11_pairs_195 (by decide) rfl rfl ?_
          refine wp_iinc (v := (x7 + (-1 : Int32))) (ls' := [some (.ref (ad G 71)), some (.int x1), some (.int x2), some (.int x3), some (.int x4), some (.int x5), some (.int x6), some (.int (x7 + (-1 : Int32))), some (.int r20)]) dX11_pairs_197 rfl rfl (by decide) rfl rfl ?_
          refine wp_goto (tgt := 106) dX11_pairs_200 (by decide) ?_
          exact wp_mask [true, true, true, true, true, true, true, true, false] rfl h
        · replace h := h.2 c21
          refine wp_iload dX11_pairs_162 rfl ?_
          refine wp_aload_n dX11_pairs_164 rfl rfl ?_
          refine wp_getR (b := 91) dX11_pairs_165 rfl rfl fb_11_31 m_4_186 ?_
          refine wp_iload dX11_pairs_168 rfl ?_
          refine wp_iconst (v := 1) dX11_pairs_170 (by decide) ?_
          refine wp_iload dX11_pairs_171 rfl ?_
          refine wp_ishl dX11_pairs_173 ?_
          refine wp_iconst (v := (-1 : Int32)) dX11_pairs_174 (by decide) ?_
          refine wp_ixor dX11_pairs_175 ?_
          refine wp_iand dX11_pairs_176 ?_
          obtain ⟨b22, h⟩ := h
          refine wp_iald (n := 256) dX11_pairs_177 rfl rfl b22 ?_
          refine wp_iadd dX11_pairs_178 ?_
          refine wp_aload_n dX11_pairs_179 rfl rfl ?_
          refine wp_getR (b := 91) dX11_pairs_180 rfl rfl fb_11_31 m_4_186 ?_
          refine wp_iload_n dX11_pairs_183 rfl rfl ?_
          obtain ⟨b23, h⟩ := h
          refine wp_iald (n := 256) dX11_pairs_184 rfl rfl b23 ?_
          refine wp_icmp_ne (tgt := 193) dX11_pairs_185 (by decide) (fun c24 => ?_) (fun c24 => ?_)
          · replace h := h.2 c24
            refine wp_iload dX11_pairs_193 rfl ?_
            refine wp_istore (ls' := [some (.ref (ad G 71)), some (.int x1), some (.int x2), some (.int x3), some (.int x4), some (.int x5), some (.int x6), some (.int x7), some (.int r20)]) dX11_pairs_195 (by decide) rfl rfl ?_
            refine wp_iinc (v := (x7 + (-1 : Int32))) (ls' := [some (.ref (ad G 71)), some (.int x1), some (.int x2), some (.int x3), some (.int x4), some (.int x5), some (.int x6), some (.int (x7 + (-1 : Int32))), some (.int r20)]) dX11_pairs_197 rfl rfl (by decide) rfl rfl ?_
            refine wp_goto (tgt := 106) dX11_pairs_200 (by decide) ?_
            exact wp_mask [true, true, true, true, true, true, true, true, false] rfl h
          · replace h := h.1 c24
            refine wp_iload dX11_pairs_188 rfl ?_
            refine wp_goto (tgt := 195) dX11_pairs_190 (by decide) ?_
            refine wp_istore (ls' := [some (.ref (ad G 71)), some (.int x1), some (.int x2), some (.int x3), some (.int x4), some (.int x5), some (.int x7), some (.int x7), some (.int r20)]) dX11_pairs_195 (by decide) rfl rfl ?_
            refine wp_iinc (v := (x7 + (-1 : Int32))) (ls' := [some (.ref (ad G 71)), some (.int x1), some (.int x2), some (.int x3), some (.int x4), some (.int x5), some (.int x7), some (.int (x7 + (-1 : Int32))), some (.int r20)]) dX11_pairs_197 rfl rfl (by decide) rfl rfl ?_
            refine wp_goto (tgt := 106) dX11_pairs_200 (by decide) ?_
            exact wp_mask [true, true, true, true, true, true, true, true, false] rfl h
abbrev C_X11_pairs (G : Glob) (x1 : Int32) (M : Mem) (Q : Option Value → Mem → Prop) : Prop := WpM G 6 Y_X11_pairs [.ref (ad G 71), .int x1] M Q
set_option maxRecDepth 20000 in
theorem v_X11_pairs {G : Glob} {x1 : Int32} {M : Mem} {Q : Option Value → Mem → Prop}  (h : (WpM G 2 Y_X11_isRow [.int x1] M (RI (fun r2 M1 => ((r2 = 0 → Q (some (.int (-1 : Int32))) M1) ∧ (¬ r2 = 0 → (((M1.1 71 20) = 0 → Q (some (.int (-4 : Int32))) M1) ∧ (¬ (M1.1 71 20) = 0 → (WpM G 5 Y_X11_measure [.ref (ad G 71)] M1 (RV (fun M5 => (WpM G 1 Y_X11_clearRow [.ref (ad G 71), .int x1, .int (M5.1 71 20)] M5 (RV (fun M6 => P_X11_pairs_34 G x1 0 M6 Q)))))))))))))) : C_X11_pairs G x1 M Q := by
  refine wp_enter (ls0 := [some (.ref (ad G 71)), some (.int x1), none, none, none, none, none, none, none]) (by decide +kernel) (Nat.le_of_ble_eq_true rfl) rfl ?_
  refine wp_iload_n dX11_pairs_0 rfl rfl ?_
  refine wp_callSI (d1 := 2) (As := [.int x1]) (st := []) dX11_pairs_1 cm_X11_isRow m_5_29 (by decide) rfl (Nat.le_of_ble_eq_true rfl) rfl h ?_
  intro r2 M1 h
  refine wp_if_ne (tgt := 9) dX11_pairs_4 (by decide) (fun c3 => ?_) (fun c3 => ?_)
  · replace h := h.2 c3
    refine wp_aload_n dX11_pairs_9 rfl rfl ?_
    refine wp_getI dX11_pairs_10 rfl fb_11_20 m_4_175 ?_
    refine wp_if_ne (tgt := 19) dX11_pairs_13 (by decide) (fun c4 => ?_) (fun c4 => ?_)
    · replace h := h.2 c4
      refine wp_aload_n dX11_pairs_19 rfl rfl ?_
      refine wp_callVV (a := 71) (d1 := 5) (As := []) (st := []) dX11_pairs_20 rfl cm_X11_measure m_5_210 (by decide) rfl (Nat.le_of_ble_eq_true rfl) rfl h ?_
      intro M5 h
      refine wp_aload_n dX11_pairs_23 rfl rfl ?_
      refine wp_iload_n dX11_pairs_24 rfl rfl ?_
      refine wp_aload_n dX11_pairs_25 rfl rfl ?_
      refine wp_getI dX11_pairs_26 rfl fb_11_20 m_4_175 ?_
      refine wp_callVV (a := 71) (d1 := 1) (As := [.int x1, .int (M5.1 71 20)]) (st := []) dX11_pairs_29 rfl cm_X11_clearRow m_5_39 (by decide) rfl (Nat.le_of_ble_eq_true rfl) rfl h ?_
      intro M6 h
      refine wp_iconst (v := 0) dX11_pairs_32 (by decide) ?_
      refine wp_istore_n (ls' := [some (.ref (ad G 71)), some (.int x1), some (.int 0), none, none, none, none, none, none]) dX11_pairs_33 rfl (by decide) rfl rfl ?_
      exact h
    · replace h := h.1 c4
      refine wp_bipush (v := (-4 : Int32)) dX11_pairs_16 (by decide) ?_
      exact wp_iret (ty := .int) dX11_pairs_18 rfl rfl h
  · replace h := h.1 c3
    refine wp_iconst (v := (-1 : Int32)) dX11_pairs_7 (by decide) ?_
    exact wp_iret (ty := .int) dX11_pairs_8 rfl rfl h
abbrev P_X11_missed_28 (G : Glob) (x1 : Int32) (x2 : Int32) (x3 : Int32) (x4 : Int32) (M : Mem) (Q : Option Value → Mem → Prop) : Prop := Wp G 6 Y_X11_missed 28 [some (.ref (ad G 71)), some (.int x1), some (.int x2), some (.int x3), some (.int x4), none] [] M Q
set_option maxRecDepth 20000 in
theorem v_X11_missed_28 {G : Glob} {x1 : Int32} {x2 : Int32} {x3 : Int32} {x4 : Int32} {M : Mem} {Q : Option Value → Mem → Prop}  (h : ((x4 < (M.1 71 20) → (vp_in x1 256 ∧ (vp_in (x1 &&& ((1 <<< (x4 &&& 31)) ^^^ (-1 : Int32))) 256 ∧ (∀ y6 : Int32, y6 = ((M.1 91 x1.toNatClampNeg) - (M.1 91 (x1 &&& ((1 <<< (x4 &&& 31)) ^^^ (-1 : Int32))).toNatClampNeg)) → (vp_in x4 8 ∧ (((M.1 86 x4.toNatClampNeg) = 0 → ((x2 = (-9 : Int32) → P_X11_missed_28 G x1 x4 y6 (x4 + 1) M Q) ∧ (¬ x2 = (-9 : Int32) → ((x3 < y6 → P_X11_missed_28 G x1 x4 y6 (x4 + 1) M Q) ∧ (¬ x3 < y6 → P_X11_missed_28 G x1 x2 x3 (x4 + 1) M Q))))) ∧ (¬ (M.1 86 x4.toNatClampNeg) = 0 → P_X11_missed_28 G x1 x2 x3 (x4 + 1) M Q))))))) ∧ (¬ x4 < (M.1 71 20) → ((x2 = (-9 : Int32) → Q (some (.int x2)) M) ∧ (¬ x2 = (-9 : Int32) → (∀ M3 : Mem, M3 = upI M 71 0 x3 → Q (some (.int x2)) M3)))))) : P_X11_missed_28 G x1 x2 x3 x4 M Q := by
  refine wp_iload dX11_missed_28 rfl ?_
  refine wp_aload_n dX11_missed_30 rfl rfl ?_
  refine wp_getI dX11_missed_31 rfl fb_11_20 m_4_175 ?_
  refine wp_icmp_ge (tgt := 93) dX11_missed_34 (by decide) (fun c1 => ?_) (fun c1 => ?_)
  · replace h := h.2 c1
    refine wp_iload_n dX11_missed_93 rfl rfl ?_
    refine wp_bipush (v := (-9 : Int32)) dX11_missed_94 (by decide) ?_
    refine wp_icmp_eq (tgt := 104) dX11_missed_96 (by decide) (fun c2 => ?_) (fun c2 => ?_)
    · replace h := h.1 c2
      refine wp_iload_n dX11_missed_104 rfl rfl ?_
      exact wp_iret (ty := .int) dX11_missed_105 rfl rfl h
    · replace h := h.2 c2
      refine wp_aload_n dX11_missed_99 rfl rfl ?_
      refine wp_iload_n dX11_missed_100 rfl rfl ?_
      refine wp_putI dX11_missed_101 rfl fp_11_0 m_4_155 ?_
      refine wp_topM (fun M3 hM3 => ?_)
      replace h := h M3 hM3
      refine wp_iload_n dX11_missed_104 rfl rfl ?_
      exact wp_iret (ty := .int) dX11_missed_105 rfl rfl h
  · replace h := h.1 c1
    refine wp_aload_n dX11_missed_37 rfl rfl ?_
    refine wp_getR (b := 91) dX11_missed_38 rfl rfl fb_11_31 m_4_186 ?_
    refine wp_iload_n dX11_missed_41 rfl rfl ?_
    obtain ⟨b4, h⟩ := h
    refine wp_iald (n := 256) dX11_missed_42 rfl rfl b4 ?_
    refine wp_aload_n dX11_missed_43 rfl rfl ?_
    refine wp_getR (b := 91) dX11_missed_44 rfl rfl fb_11_31 m_4_186 ?_
    refine wp_iload_n dX11_missed_47 rfl rfl ?_
    refine wp_iconst (v := 1) dX11_missed_48 (by decide) ?_
    refine wp_iload dX11_missed_49 rfl ?_
    refine wp_ishl dX11_missed_51 ?_
    refine wp_iconst (v := (-1 : Int32)) dX11_missed_52 (by decide) ?_
    refine wp_ixor dX11_missed_53 ?_
    refine wp_iand dX11_missed_54 ?_
    obtain ⟨b5, h⟩ := h
    refine wp_iald (n := 256) dX11_missed_55 rfl rfl b5 ?_
    refine wp_isub dX11_missed_56 ?_
    refine wp_topI (fun y6 hy6 => ?_)
    replace h := h y6 hy6
    refine wp_istore (ls' := [some (.ref (ad G 71)), some (.int x1), some (.int x2), some (.int x3), some (.int x4), some (.int y6)]) dX11_missed_57 (by decide) rfl rfl ?_
    refine wp_aload_n dX11_missed_59 rfl rfl ?_
    refine wp_getR (b := 86) dX11_missed_60 rfl rfl fb_11_25 m_4_180 ?_
    refine wp_iload dX11_missed_63 rfl ?_
    obtain ⟨b7, h⟩ := h
    refine wp_iald (n := 8) dX11_missed_65 rfl rfl b7 ?_
    refine wp_if_ne (tgt := 87) dX11_missed_66 (by decide) (fun c8 => ?_) (fun c8 => ?_)
    · replace h := h.2 c8
      refine wp_iinc (v := (x4 + 1)) (ls' := [some (.ref (ad G 71)), some (.int x1), some (.int x2), some (.int x3), some (.int (x4 + 1)), some (.int y6)]) dX11_missed_87 rfl rfl (by decide) rfl rfl ?_
      refine wp_goto (tgt := 28) dX11_missed_90 (by decide) ?_
      exact wp_mask [true, true, true, true, true, false] rfl h
    · replace h := h.1 c8
      refine wp_iload_n dX11_missed_69 rfl rfl ?_
      refine wp_bipush (v := (-9 : Int32)) dX11_missed_70 (by decide) ?_
      refine wp_icmp_eq (tgt := 81) dX11_missed_72 (by decide) (fun c9 => ?_) (fun c9 => ?_)
      · replace h := h.1 c9
        refine wp_iload dX11_missed_81 rfl ?_
        refine wp_istore_n (ls' := [some (.ref (ad G 71)), some (.int x1), some (.int x4), some (.int x3), some (.int x4), some (.int y6)]) dX11_missed_83 rfl (by decide) rfl rfl ?_
        refine wp_iload dX11_missed_84 rfl ?_
        refine wp_istore_n (ls' := [some (.ref (ad G 71)), some (.int x1), some (.int x4), some (.int y6), some (.int x4), some (.int y6)]) dX11_missed_86 rfl (by decide) rfl rfl ?_
        refine wp_iinc (v := (x4 + 1)) (ls' := [some (.ref (ad G 71)), some (.int x1), some (.int x4), some (.int y6), some (.int (x4 + 1)), some (.int y6)]) dX11_missed_87 rfl rfl (by decide) rfl rfl ?_
        refine wp_goto (tgt := 28) dX11_missed_90 (by decide) ?_
        exact wp_mask [true, true, true, true, true, false] rfl h
      · replace h := h.2 c9
        refine wp_iload dX11_missed_75 rfl ?_
        refine wp_iload_n dX11_missed_77 rfl rfl ?_
        refine wp_icmp_le (tgt := 87) dX11_missed_78 (by decide) (fun c10 => ?_) (fun c10 => ?_)
        · replace h := h.2 c10
          refine wp_iinc (v := (x4 + 1)) (ls' := [some (.ref (ad G 71)), some (.int x1), some (.int x2), some (.int x3), some (.int (x4 + 1)), some (.int y6)]) dX11_missed_87 rfl rfl (by decide) rfl rfl ?_
          refine wp_goto (tgt := 28) dX11_missed_90 (by decide) ?_
          exact wp_mask [true, true, true, true, true, false] rfl h
        · replace h := h.1 c10
          refine wp_iload dX11_missed_81 rfl ?_
          refine wp_istore_n (ls' := [some (.ref (ad G 71)), some (.int x1), some (.int x4), some (.int x3), some (.int x4), some (.int y6)]) dX11_missed_83 rfl (by decide) rfl rfl ?_
          refine wp_iload dX11_missed_84 rfl ?_
          refine wp_istore_n (ls' := [some (.ref (ad G 71)), some (.int x1), some (.int x4), some (.int y6), some (.int x4), some (.int y6)]) dX11_missed_86 rfl (by decide) rfl rfl ?_
          refine wp_iinc (v := (x4 + 1)) (ls' := [some (.ref (ad G 71)), some (.int x1), some (.int x4), some (.int y6), some (.int (x4 + 1)), some (.int y6)]) dX11_missed_87 rfl rfl (by decide) rfl rfl ?_
          refine wp_goto (tgt := 28) dX11_missed_90 (by decide) ?_
          exact wp_mask [true, true, true, true, true, false] rfl h
abbrev C_X11_missed (G : Glob)  (M : Mem) (Q : Option Value → Mem → Prop) : Prop := WpM G 6 Y_X11_missed [.ref (ad G 71)] M Q
set_option maxRecDepth 20000 in
theorem v_X11_missed {G : Glob} {M : Mem} {Q : Option Value → Mem → Prop}  (h : (((M.1 71 20) = 0 → Q (some (.int (-4 : Int32))) M) ∧ (¬ (M.1 71 20) = 0 → (WpM G 5 Y_X11_measure [.ref (ad G 71)] M (RV (fun M2 => (WpM G 1 Y_X11_setIn [.ref (ad G 71), .int 0] M2 (RI (fun r4 M3 => P_X11_missed_28 G r4 (-9 : Int32) 0 0 M3 Q))))))))) : C_X11_missed G  M Q := by
  refine wp_enter (ls0 := [some (.ref (ad G 71)), none, none, none, none, none]) (by decide +kernel) (Nat.le_of_ble_eq_true rfl) rfl ?_
  refine wp_aload_n dX11_missed_0 rfl rfl ?_
  refine wp_getI dX11_missed_1 rfl fb_11_20 m_4_175 ?_
  refine wp_if_ne (tgt := 10) dX11_missed_4 (by decide) (fun c1 => ?_) (fun c1 => ?_)
  · replace h := h.2 c1
    refine wp_aload_n dX11_missed_10 rfl rfl ?_
    refine wp_callVV (a := 71) (d1 := 5) (As := []) (st := []) dX11_missed_11 rfl cm_X11_measure m_5_210 (by decide) rfl (Nat.le_of_ble_eq_true rfl) rfl h ?_
    intro M2 h
    refine wp_aload_n dX11_missed_14 rfl rfl ?_
    refine wp_iconst (v := 0) dX11_missed_15 (by decide) ?_
    refine wp_callVI (a := 71) (d1 := 1) (As := [.int 0]) (st := []) dX11_missed_16 rfl cm_X11_setIn m_5_175 (by decide) rfl (Nat.le_of_ble_eq_true rfl) rfl h ?_
    intro r4 M3 h
    refine wp_istore_n (ls' := [some (.ref (ad G 71)), some (.int r4), none, none, none, none]) dX11_missed_19 rfl (by decide) rfl rfl ?_
    refine wp_bipush (v := (-9 : Int32)) dX11_missed_20 (by decide) ?_
    refine wp_istore_n (ls' := [some (.ref (ad G 71)), some (.int r4), some (.int (-9 : Int32)), none, none, none]) dX11_missed_22 rfl (by decide) rfl rfl ?_
    refine wp_iconst (v := 0) dX11_missed_23 (by decide) ?_
    refine wp_istore_n (ls' := [some (.ref (ad G 71)), some (.int r4), some (.int (-9 : Int32)), some (.int 0), none, none]) dX11_missed_24 rfl (by decide) rfl rfl ?_
    refine wp_iconst (v := 0) dX11_missed_25 (by decide) ?_
    refine wp_istore (ls' := [some (.ref (ad G 71)), some (.int r4), some (.int (-9 : Int32)), some (.int 0), some (.int 0), none]) dX11_missed_26 (by decide) rfl rfl ?_
    exact h
  · replace h := h.1 c1
    refine wp_bipush (v := (-4 : Int32)) dX11_missed_7 (by decide) ?_
    exact wp_iret (ty := .int) dX11_missed_9 rfl rfl h
abbrev P_X11_wished_28 (G : Glob) (x1 : Int32) (x2 : Int32) (x3 : Int32) (x4 : Int32) (M : Mem) (Q : Option Value → Mem → Prop) : Prop := Wp G 6 Y_X11_wished 28 [some (.ref (ad G 71)), some (.int x1), some (.int x2), some (.int x3), some (.int x4), none] [] M Q
set_option maxRecDepth 20000 in
theorem v_X11_wished_28 {G : Glob} {x1 : Int32} {x2 : Int32} {x3 : Int32} {x4 : Int32} {M : Mem} {Q : Option Value → Mem → Prop}  (h : ((x4 < (M.1 71 20) → (vp_in (x1 ||| (1 <<< (x4 &&& 31))) 256 ∧ (vp_in x1 256 ∧ (∀ y6 : Int32, y6 = ((M.1 91 (x1 ||| (1 <<< (x4 &&& 31))).toNatClampNeg) - (M.1 91 x1.toNatClampNeg)) → (vp_in x4 8 ∧ (((M.1 86 x4.toNatClampNeg) = 0 → P_X11_wished_28 G x1 x2 x3 (x4 + 1) M Q) ∧ (¬ (M.1 86 x4.toNatClampNeg) = 0 → ((x2 = (-9 : Int32) → P_X11_wished_28 G x1 x4 y6 (x4 + 1) M Q) ∧ (¬ x2 = (-9 : Int32) → ((x3 < y6 → P_X11_wished_28 G x1 x4 y6 (x4 + 1) M Q) ∧ (¬ x3 < y6 → P_X11_wished_28 G x1 x2 x3 (x4 + 1) M Q))))))))))) ∧ (¬ x4 < (M.1 71 20) → ((x2 = (-9 : Int32) → Q (some (.int x2)) M) ∧ (¬ x2 = (-9 : Int32) → (∀ M3 : Mem, M3 = upI M 71 0 x3 → Q (some (.int x2)) M3)))))) : P_X11_wished_28 G x1 x2 x3 x4 M Q := by
  refine wp_iload dX11_wished_28 rfl ?_
  refine wp_aload_n dX11_wished_30 rfl rfl ?_
  refine wp_getI dX11_wished_31 rfl fb_11_20 m_4_175 ?_
  refine wp_icmp_ge (tgt := 91) dX11_wished_34 (by decide) (fun c1 => ?_) (fun c1 => ?_)
  · replace h := h.2 c1
    refine wp_iload_n dX11_wished_91 rfl rfl ?_
    refine wp_bipush (v := (-9 : Int32)) dX11_wished_92 (by decide) ?_
    refine wp_icmp_eq (tgt := 102) dX11_wished_94 (by decide) (fun c2 => ?_) (fun c2 => ?_)
    · replace h := h.1 c2
      refine wp_iload_n dX11_wished_102 rfl rfl ?_
      exact wp_iret (ty := .int) dX11_wished_103 rfl rfl h
    · replace h := h.2 c2
      refine wp_aload_n dX11_wished_97 rfl rfl ?_
      refine wp_iload_n dX11_wished_98 rfl rfl ?_
      refine wp_putI dX11_wished_99 rfl fp_11_0 m_4_155 ?_
      refine wp_topM (fun M3 hM3 => ?_)
      replace h := h M3 hM3
      refine wp_iload_n dX11_wished_102 rfl rfl ?_
      exact wp_iret (ty := .int) dX11_wished_103 rfl rfl h
  · replace h := h.1 c1
    refine wp_aload_n dX11_wished_37 rfl rfl ?_
    refine wp_getR (b := 91) dX11_wished_38 rfl rfl fb_11_31 m_4_186 ?_
    refine wp_iload_n dX11_wished_41 rfl rfl ?_
    refine wp_iconst (v := 1) dX11_wished_42 (by decide) ?_
    refine wp_iload dX11_wished_43 rfl ?_
    refine wp_ishl dX11_wished_45 ?_
    refine wp_ior dX11_wished_46 ?_
    obtain ⟨b4, h⟩ := h
    refine wp_iald (n := 256) dX11_wished_47 rfl rfl b4 ?_
    refine wp_aload_n dX11_wished_48 rfl rfl ?_
    refine wp_getR (b := 91) dX11_wished_49 rfl rfl fb_11_31 m_4_186 ?_
    refine wp_iload_n dX11_wished_52 rfl rfl ?_
    obtain ⟨b5, h⟩ := h
    refine wp_iald (n := 256) dX11_wished_53 rfl rfl b5 ?_
    refine wp_isub dX11_wished_54 ?_
    refine wp_topI (fun y6 hy6 => ?_)
    replace h := h y6 hy6
    refine wp_istore (ls' := [some (.ref (ad G 71)), some (.int x1), some (.int x2), some (.int x3), some (.int x4), some (.int y6)]) dX11_wished_55 (by decide) rfl rfl ?_
    refine wp_aload_n dX11_wished_57 rfl rfl ?_
    refine wp_getR (b := 86) dX11_wished_58 rfl rfl fb_11_25 m_4_180 ?_
    refine wp_iload dX11_wished_61 rfl ?_
    obtain ⟨b7, h⟩ := h
    refine wp_iald (n := 8) dX11_wished_63 rfl rfl b7 ?_
    refine wp_if_eq (tgt := 85) dX11_wished_64 (by decide) (fun c8 => ?_) (fun c8 => ?_)
    · replace h := h.1 c8
      refine wp_iinc (v := (x4 + 1)) (ls' := [some (.ref (ad G 71)), some (.int x1), some (.int x2), some (.int x3), some (.int (x4 + 1)), some (.int y6)]) dX11_wished_85 rfl rfl (by decide) rfl rfl ?_
      refine wp_goto (tgt := 28) dX11_wished_88 (by decide) ?_
      exact wp_mask [true, true, true, true, true, false] rfl h
    · replace h := h.2 c8
      refine wp_iload_n dX11_wished_67 rfl rfl ?_
      refine wp_bipush (v := (-9 : Int32)) dX11_wished_68 (by decide) ?_
      refine wp_icmp_eq (tgt := 79) dX11_wished_70 (by decide) (fun c9 => ?_) (fun c9 => ?_)
      · replace h := h.1 c9
        refine wp_iload dX11_wished_79 rfl ?_
        refine wp_istore_n (ls' := [some (.ref (ad G 71)), some (.int x1), some (.int x4), some (.int x3), some (.int x4), some (.int y6)]) dX11_wished_81 rfl (by decide) rfl rfl ?_
        refine wp_iload dX11_wished_82 rfl ?_
        refine wp_istore_n (ls' := [some (.ref (ad G 71)), some (.int x1), some (.int x4), some (.int y6), some (.int x4), some (.int y6)]) dX11_wished_84 rfl (by decide) rfl rfl ?_
        refine wp_iinc (v := (x4 + 1)) (ls' := [some (.ref (ad G 71)), some (.int x1), some (.int x4), some (.int y6), some (.int (x4 + 1)), some (.int y6)]) dX11_wished_85 rfl rfl (by decide) rfl rfl ?_
        refine wp_goto (tgt := 28) dX11_wished_88 (by decide) ?_
        exact wp_mask [true, true, true, true, true, false] rfl h
      · replace h := h.2 c9
        refine wp_iload dX11_wished_73 rfl ?_
        refine wp_iload_n dX11_wished_75 rfl rfl ?_
        refine wp_icmp_le (tgt := 85) dX11_wished_76 (by decide) (fun c10 => ?_) (fun c10 => ?_)
        · replace h := h.2 c10
          refine wp_iinc (v := (x4 + 1)) (ls' := [some (.ref (ad G 71)), some (.int x1), some (.int x2), some (.int x3), some (.int (x4 + 1)), some (.int y6)]) dX11_wished_85 rfl rfl (by decide) rfl rfl ?_
          refine wp_goto (tgt := 28) dX11_wished_88 (by decide) ?_
          exact wp_mask [true, true, true, true, true, false] rfl h
        · replace h := h.1 c10
          refine wp_iload dX11_wished_79 rfl ?_
          refine wp_istore_n (ls' := [some (.ref (ad G 71)), some (.int x1), some (.int x4), some (.int x3), some (.int x4), some (.int y6)]) dX11_wished_81 rfl (by decide) rfl rfl ?_
          refine wp_iload dX11_wished_82 rfl ?_
          refine wp_istore_n (ls' := [some (.ref (ad G 71)), some (.int x1), some (.int x4), some (.int y6), some (.int x4), some (.int y6)]) dX11_wished_84 rfl (by decide) rfl rfl ?_
          refine wp_iinc (v := (x4 + 1)) (ls' := [some (.ref (ad G 71)), some (.int x1), some (.int x4), some (.int y6), some (.int (x4 + 1)), some (.int y6)]) dX11_wished_85 rfl rfl (by decide) rfl rfl ?_
          refine wp_goto (tgt := 28) dX11_wished_88 (by decide) ?_
          exact wp_mask [true, true, true, true, true, false] rfl h
abbrev C_X11_wished (G : Glob)  (M : Mem) (Q : Option Value → Mem → Prop) : Prop := WpM G 6 Y_X11_wished [.ref (ad G 71)] M Q
set_option maxRecDepth 20000 in
theorem v_X11_wished {G : Glob} {M : Mem} {Q : Option Value → Mem → Prop}  (h : (((M.1 71 20) = 0 → Q (some (.int (-4 : Int32))) M) ∧ (¬ (M.1 71 20) = 0 → (WpM G 5 Y_X11_measure [.ref (ad G 71)] M (RV (fun M2 => (WpM G 1 Y_X11_setIn [.ref (ad G 71), .int 0] M2 (RI (fun r4 M3 => P_X11_wished_28 G r4 (-9 : Int32) 0 0 M3 Q))))))))) : C_X11_wished G  M Q := by
  refine wp_enter (ls0 := [some (.ref (ad G 71)), none, none, none, none, none]) (by decide +kernel) (Nat.le_of_ble_eq_true rfl) rfl ?_
  refine wp_aload_n dX11_wished_0 rfl rfl ?_
  refine wp_getI dX11_wished_1 rfl fb_11_20 m_4_175 ?_
  refine wp_if_ne (tgt := 10) dX11_wished_4 (by decide) (fun c1 => ?_) (fun c1 => ?_)
  · replace h := h.2 c1
    refine wp_aload_n dX11_wished_10 rfl rfl ?_
    refine wp_callVV (a := 71) (d1 := 5) (As := []) (st := []) dX11_wished_11 rfl cm_X11_measure m_5_210 (by decide) rfl (Nat.le_of_ble_eq_true rfl) rfl h ?_
    intro M2 h
    refine wp_aload_n dX11_wished_14 rfl rfl ?_
    refine wp_iconst (v := 0) dX11_wished_15 (by decide) ?_
    refine wp_callVI (a := 71) (d1 := 1) (As := [.int 0]) (st := []) dX11_wished_16 rfl cm_X11_setIn m_5_175 (by decide) rfl (Nat.le_of_ble_eq_true rfl) rfl h ?_
    intro r4 M3 h
    refine wp_istore_n (ls' := [some (.ref (ad G 71)), some (.int r4), none, none, none, none]) dX11_wished_19 rfl (by decide) rfl rfl ?_
    refine wp_bipush (v := (-9 : Int32)) dX11_wished_20 (by decide) ?_
    refine wp_istore_n (ls' := [some (.ref (ad G 71)), some (.int r4), some (.int (-9 : Int32)), none, none, none]) dX11_wished_22 rfl (by decide) rfl rfl ?_
    refine wp_iconst (v := 0) dX11_wished_23 (by decide) ?_
    refine wp_istore_n (ls' := [some (.ref (ad G 71)), some (.int r4), some (.int (-9 : Int32)), some (.int 0), none, none]) dX11_wished_24 rfl (by decide) rfl rfl ?_
    refine wp_iconst (v := 0) dX11_wished_25 (by decide) ?_
    refine wp_istore (ls' := [some (.ref (ad G 71)), some (.int r4), some (.int (-9 : Int32)), some (.int 0), some (.int 0), none]) dX11_wished_26 (by decide) rfl rfl ?_
    exact h
  · replace h := h.1 c1
    refine wp_bipush (v := (-4 : Int32)) dX11_wished_7 (by decide) ?_
    exact wp_iret (ty := .int) dX11_wished_9 rfl rfl h
abbrev P_X11_listTwos_7 (G : Glob) (x1 : Int32) (M : Mem) (Q : Option Value → Mem → Prop) : Prop := Wp G 5 Y_X11_listTwos 7 [some (.ref (ad G 71)), some (.int x1), none] [] M Q
abbrev P_X11_listTwos_19 (G : Glob) (x1 : Int32) (x2 : Int32) (M : Mem) (Q : Option Value → Mem → Prop) : Prop := Wp G 5 Y_X11_listTwos 19 [some (.ref (ad G 71)), some (.int x1), some (.int x2)] [] M Q
set_option maxRecDepth 20000 in
theorem v_X11_listTwos_7 {G : Glob} {x1 : Int32} {M : Mem} {Q : Option Value → Mem → Prop}  (h : ((x1 < (M.1 71 20) → P_X11_listTwos_19 G x1 (x1 + 1) M Q) ∧ (¬ x1 < (M.1 71 20) → Q none M))) : P_X11_listTwos_7 G x1 M Q := by
  refine wp_iload_n dX11_listTwos_7 rfl rfl ?_
  refine wp_aload_n dX11_listTwos_8 rfl rfl ?_
  refine wp_getI dX11_listTwos_9 rfl fb_11_20 m_4_175 ?_
  refine wp_icmp_ge (tgt := 93) dX11_listTwos_12 (by decide) (fun c1 => ?_) (fun c1 => ?_)
  · replace h := h.2 c1
    exact wp_vret dX11_listTwos_93 rfl h
  · replace h := h.1 c1
    refine wp_iload_n dX11_listTwos_15 rfl rfl ?_
    refine wp_iconst (v := 1) dX11_listTwos_16 (by decide) ?_
    refine wp_iadd dX11_listTwos_17 ?_
    refine wp_istore_n (ls' := [some (.ref (ad G 71)), some (.int x1), some (.int (x1 + 1))]) dX11_listTwos_18 rfl (by decide) rfl rfl ?_
    exact h
set_option maxRecDepth 20000 in
theorem v_X11_listTwos_19 {G : Glob} {x1 : Int32} {x2 : Int32} {M : Mem} {Q : Option Value → Mem → Prop}  (h : ((x2 < (M.1 71 20) → (vp_in x1 8 ∧ (((M.1 86 x1.toNatClampNeg) = 0 → (vp_in x2 8 ∧ (((M.1 86 x2.toNatClampNeg) = 0 → (WpM G 4 Y_X11_pairOf [.ref (ad G 71), .int x1, .int x2] M (RI (fun r7 M6 => ((r7 = (-9 : Int32) → P_X11_listTwos_19 G x1 (x2 + 1) M6 Q) ∧ (¬ r7 = (-9 : Int32) → (vp_in (M6.1 71 34) 28 ∧ (∀ M10 : Mem, M10 = upI M6 93 ((M6.1 71 34).toNatClampNeg) ((10 * x1) + x2) → (∀ M11 : Mem, M11 = upI M10 71 34 ((M10.1 71 34) + 1) → P_X11_listTwos_19 G x1 (x2 + 1) M11 Q))))))))) ∧ (¬ (M.1 86 x2.toNatClampNeg) = 0 → P_X11_listTwos_19 G x1 (x2 + 1) M Q)))) ∧ (¬ (M.1 86 x1.toNatClampNeg) = 0 → P_X11_listTwos_19 G x1 (x2 + 1) M Q)))) ∧ (¬ x2 < (M.1 71 20) → P_X11_listTwos_7 G (x1 + 1) M Q))) : P_X11_listTwos_19 G x1 x2 M Q := by
  refine wp_iload_n dX11_listTwos_19 rfl rfl ?_
  refine wp_aload_n dX11_listTwos_20 rfl rfl ?_
  refine wp_getI dX11_listTwos_21 rfl fb_11_20 m_4_175 ?_
  refine wp_icmp_ge (tgt := 87) dX11_listTwos_24 (by decide) (fun c1 => ?_) (fun c1 => ?_)
  · replace h := h.2 c1
    refine wp_iinc (v := (x1 + 1)) (ls' := [some (.ref (ad G 71)), some (.int (x1 + 1)), some (.int x2)]) dX11_listTwos_87 rfl rfl (by decide) rfl rfl ?_
    refine wp_goto (tgt := 7) dX11_listTwos_90 (by decide) ?_
    exact wp_mask [true, true, false] rfl h
  · replace h := h.1 c1
    refine wp_aload_n dX11_listTwos_27 rfl rfl ?_
    refine wp_getR (b := 86) dX11_listTwos_28 rfl rfl fb_11_25 m_4_180 ?_
    refine wp_iload_n dX11_listTwos_31 rfl rfl ?_
    obtain ⟨b2, h⟩ := h
    refine wp_iald (n := 8) dX11_listTwos_32 rfl rfl b2 ?_
    refine wp_if_ne (tgt := 81) dX11_listTwos_33 (by decide) (fun c3 => ?_) (fun c3 => ?_)
    · replace h := h.2 c3
      refine wp_iinc (v := (x2 + 1)) (ls' := [some (.ref (ad G 71)), some (.int x1), some (.int (x2 + 1))]) dX11_listTwos_81 rfl rfl (by decide) rfl rfl ?_
      refine wp_goto (tgt := 19) dX11_listTwos_84 (by decide) ?_
      exact h
    · replace h := h.1 c3
      refine wp_aload_n dX11_listTwos_36 rfl rfl ?_
      refine wp_getR (b := 86) dX11_listTwos_37 rfl rfl fb_11_25 m_4_180 ?_
      refine wp_iload_n dX11_listTwos_40 rfl rfl ?_
      obtain ⟨b4, h⟩ := h
      refine wp_iald (n := 8) dX11_listTwos_41 rfl rfl b4 ?_
      refine wp_if_ne (tgt := 81) dX11_listTwos_42 (by decide) (fun c5 => ?_) (fun c5 => ?_)
      · replace h := h.2 c5
        refine wp_iinc (v := (x2 + 1)) (ls' := [some (.ref (ad G 71)), some (.int x1), some (.int (x2 + 1))]) dX11_listTwos_81 rfl rfl (by decide) rfl rfl ?_
        refine wp_goto (tgt := 19) dX11_listTwos_84 (by decide) ?_
        exact h
      · replace h := h.1 c5
        refine wp_aload_n dX11_listTwos_45 rfl rfl ?_
        refine wp_iload_n dX11_listTwos_46 rfl rfl ?_
        refine wp_iload_n dX11_listTwos_47 rfl rfl ?_
        refine wp_callVI (a := 71) (d1 := 4) (As := [.int x1, .int x2]) (st := []) dX11_listTwos_48 rfl cm_X11_pairOf m_5_140 (by decide) rfl (Nat.le_of_ble_eq_true rfl) rfl h ?_
        intro r7 M6 h
        refine wp_bipush (v := (-9 : Int32)) dX11_listTwos_51 (by decide) ?_
        refine wp_icmp_eq (tgt := 81) dX11_listTwos_53 (by decide) (fun c8 => ?_) (fun c8 => ?_)
        · replace h := h.1 c8
          refine wp_iinc (v := (x2 + 1)) (ls' := [some (.ref (ad G 71)), some (.int x1), some (.int (x2 + 1))]) dX11_listTwos_81 rfl rfl (by decide) rfl rfl ?_
          refine wp_goto (tgt := 19) dX11_listTwos_84 (by decide) ?_
          exact h
        · replace h := h.2 c8
          refine wp_aload_n dX11_listTwos_56 rfl rfl ?_
          refine wp_getR (b := 93) dX11_listTwos_57 rfl rfl fb_11_33 m_4_188 ?_
          refine wp_aload_n dX11_listTwos_60 rfl rfl ?_
          refine wp_getI dX11_listTwos_61 rfl fb_11_34 m_4_189 ?_
          refine wp_bipush (v := 10) dX11_listTwos_64 (by decide) ?_
          refine wp_iload_n dX11_listTwos_66 rfl rfl ?_
          refine wp_imul dX11_listTwos_67 ?_
          refine wp_iload_n dX11_listTwos_68 rfl rfl ?_
          refine wp_iadd dX11_listTwos_69 ?_
          obtain ⟨b9, h⟩ := h
          refine wp_iast (n := 28) dX11_listTwos_70 rfl rfl b9 ?_
          refine wp_topM (fun M10 hM10 => ?_)
          replace h := h M10 hM10
          refine wp_aload_n dX11_listTwos_71 rfl rfl ?_
          refine wp_dup dX11_listTwos_72 rfl ?_
          refine wp_getI dX11_listTwos_73 rfl fb_11_34 m_4_189 ?_
          refine wp_iconst (v := 1) dX11_listTwos_76 (by decide) ?_
          refine wp_iadd dX11_listTwos_77 ?_
          refine wp_putI dX11_listTwos_78 rfl fp_11_34 m_4_189 ?_
          refine wp_topM (fun M11 hM11 => ?_)
          replace h := h M11 hM11
          refine wp_iinc (v := (x2 + 1)) (ls' := [some (.ref (ad G 71)), some (.int x1), some (.int (x2 + 1))]) dX11_listTwos_81 rfl rfl (by decide) rfl rfl ?_
          refine wp_goto (tgt := 19) dX11_listTwos_84 (by decide) ?_
          exact h
abbrev C_X11_listTwos (G : Glob)  (M : Mem) (Q : Option Value → Mem → Prop) : Prop := WpM G 5 Y_X11_listTwos [.ref (ad G 71)] M Q
set_option maxRecDepth 20000 in
theorem v_X11_listTwos {G : Glob} {M : Mem} {Q : Option Value → Mem → Prop}  (h : (∀ M1 : Mem, M1 = upI M 71 34 0 → P_X11_listTwos_7 G 0 M1 Q)) : C_X11_listTwos G  M Q := by
  refine wp_enter (ls0 := [some (.ref (ad G 71)), none, none]) (by decide +kernel) (Nat.le_of_ble_eq_true rfl) rfl ?_
  refine wp_aload_n dX11_listTwos_0 rfl rfl ?_
  refine wp_iconst (v := 0) dX11_listTwos_1 (by decide) ?_
  refine wp_putI dX11_listTwos_2 rfl fp_11_34 m_4_189 ?_
  refine wp_topM (fun M1 hM1 => ?_)
  replace h := h M1 hM1
  refine wp_iconst (v := 0) dX11_listTwos_5 (by decide) ?_
  refine wp_istore_n (ls' := [some (.ref (ad G 71)), some (.int 0), none]) dX11_listTwos_6 rfl (by decide) rfl rfl ?_
  exact h
abbrev C_X11_useOf (G : Glob) (x1 : Int32) (M : Mem) (Q : Option Value → Mem → Prop) : Prop := WpM G 5 Y_X11_useOf [.ref (ad G 71), .int x1] M Q
set_option maxRecDepth 20000 in
theorem v_X11_useOf {G : Glob} {x1 : Int32} {M : Mem} {Q : Option Value → Mem → Prop}  (h : (WpM G 4 Y_X11_pairOf [.ref (ad G 71), .int (x1 / 10), .int (x1 - x1 / 10 * 10)] M (RI (fun r2 M1 => (vp_in (x1 / 10) 8 ∧ (vp_in (x1 / 10) 8 ∧ (∀ M5 : Mem, M5 = upI M1 87 ((x1 / 10).toNatClampNeg) ((M1.1 87 (x1 / 10).toNatClampNeg) + 1) → (vp_in (x1 - x1 / 10 * 10) 8 ∧ (vp_in (x1 - x1 / 10 * 10) 8 ∧ (∀ M8 : Mem, M8 = upI M5 87 ((x1 - x1 / 10 * 10).toNatClampNeg) ((M5.1 87 (x1 - x1 / 10 * 10).toNatClampNeg) + 1) → Q (some (.int r2)) M8)))))))))) : C_X11_useOf G x1 M Q := by
  refine wp_enter (ls0 := [some (.ref (ad G 71)), some (.int x1), none]) (by decide +kernel) (Nat.le_of_ble_eq_true rfl) rfl ?_
  refine wp_aload_n dX11_useOf_0 rfl rfl ?_
  refine wp_iload_n dX11_useOf_1 rfl rfl ?_
  refine wp_bipush (v := 10) dX11_useOf_2 (by decide) ?_
  refine wp_idiv dX11_useOf_4 (by decide) ?_
  refine wp_iload_n dX11_useOf_5 rfl rfl ?_
  refine wp_bipush (v := 10) dX11_useOf_6 (by decide) ?_
  refine wp_irem dX11_useOf_8 (by decide) ?_
  refine wp_callVI (a := 71) (d1 := 4) (As := [.int (x1 / 10), .int (x1 - x1 / 10 * 10)]) (st := []) dX11_useOf_9 rfl cm_X11_pairOf m_5_140 (by decide) rfl (Nat.le_of_ble_eq_true rfl) rfl h ?_
  intro r2 M1 h
  refine wp_istore_n (ls' := [some (.ref (ad G 71)), some (.int x1), some (.int r2)]) dX11_useOf_12 rfl (by decide) rfl rfl ?_
  refine wp_aload_n dX11_useOf_13 rfl rfl ?_
  refine wp_getR (b := 87) dX11_useOf_14 rfl rfl fb_11_26 m_4_181 ?_
  refine wp_iload_n dX11_useOf_17 rfl rfl ?_
  refine wp_bipush (v := 10) dX11_useOf_18 (by decide) ?_
  refine wp_idiv dX11_useOf_20 (by decide) ?_
  refine wp_dup2 dX11_useOf_21 rfl rfl ?_
  obtain ⟨b3, h⟩ := h
  refine wp_iald (n := 8) dX11_useOf_22 rfl rfl b3 ?_
  refine wp_iconst (v := 1) dX11_useOf_23 (by decide) ?_
  refine wp_iadd dX11_useOf_24 ?_
  obtain ⟨b4, h⟩ := h
  refine wp_iast (n := 8) dX11_useOf_25 rfl rfl b4 ?_
  refine wp_topM (fun M5 hM5 => ?_)
  replace h := h M5 hM5
  refine wp_aload_n dX11_useOf_26 rfl rfl ?_
  refine wp_getR (b := 87) dX11_useOf_27 rfl rfl fb_11_26 m_4_181 ?_
  refine wp_iload_n dX11_useOf_30 rfl rfl ?_
  refine wp_bipush (v := 10) dX11_useOf_31 (by decide) ?_
  refine wp_irem dX11_useOf_33 (by decide) ?_
  refine wp_dup2 dX11_useOf_34 rfl rfl ?_
  obtain ⟨b6, h⟩ := h
  refine wp_iald (n := 8) dX11_useOf_35 rfl rfl b6 ?_
  refine wp_iconst (v := 1) dX11_useOf_36 (by decide) ?_
  refine wp_iadd dX11_useOf_37 ?_
  obtain ⟨b7, h⟩ := h
  refine wp_iast (n := 8) dX11_useOf_38 rfl rfl b7 ?_
  refine wp_topM (fun M8 hM8 => ?_)
  replace h := h M8 hM8
  refine wp_iload_n dX11_useOf_39 rfl rfl ?_
  exact wp_iret (ty := .int) dX11_useOf_40 rfl rfl h
abbrev C_X11_takeOff (G : Glob) (x1 : Int32) (M : Mem) (Q : Option Value → Mem → Prop) : Prop := WpM G 1 Y_X11_takeOff [.ref (ad G 71), .int x1] M Q
set_option maxRecDepth 20000 in
theorem v_X11_takeOff {G : Glob} {x1 : Int32} {M : Mem} {Q : Option Value → Mem → Prop}  (h : (vp_in (x1 / 10) 8 ∧ (vp_in (x1 / 10) 8 ∧ (∀ M3 : Mem, M3 = upI M 87 ((x1 / 10).toNatClampNeg) ((M.1 87 (x1 / 10).toNatClampNeg) - 1) → (vp_in (x1 - x1 / 10 * 10) 8 ∧ (vp_in (x1 - x1 / 10 * 10) 8 ∧ (∀ M6 : Mem, M6 = upI M3 87 ((x1 - x1 / 10 * 10).toNatClampNeg) ((M3.1 87 (x1 - x1 / 10 * 10).toNatClampNeg) - 1) → Q none M6))))))) : C_X11_takeOff G x1 M Q := by
  refine wp_enter (ls0 := [some (.ref (ad G 71)), some (.int x1)]) (by decide +kernel) (Nat.le_of_ble_eq_true rfl) rfl ?_
  refine wp_aload_n dX11_takeOff_0 rfl rfl ?_
  refine wp_getR (b := 87) dX11_takeOff_1 rfl rfl fb_11_26 m_4_181 ?_
  refine wp_iload_n dX11_takeOff_4 rfl rfl ?_
  refine wp_bipush (v := 10) dX11_takeOff_5 (by decide) ?_
  refine wp_idiv dX11_takeOff_7 (by decide) ?_
  refine wp_dup2 dX11_takeOff_8 rfl rfl ?_
  obtain ⟨b1, h⟩ := h
  refine wp_iald (n := 8) dX11_takeOff_9 rfl rfl b1 ?_
  refine wp_iconst (v := 1) dX11_takeOff_10 (by decide) ?_
  refine wp_isub dX11_takeOff_11 ?_
  obtain ⟨b2, h⟩ := h
  refine wp_iast (n := 8) dX11_takeOff_12 rfl rfl b2 ?_
  refine wp_topM (fun M3 hM3 => ?_)
  replace h := h M3 hM3
  refine wp_aload_n dX11_takeOff_13 rfl rfl ?_
  refine wp_getR (b := 87) dX11_takeOff_14 rfl rfl fb_11_26 m_4_181 ?_
  refine wp_iload_n dX11_takeOff_17 rfl rfl ?_
  refine wp_bipush (v := 10) dX11_takeOff_18 (by decide) ?_
  refine wp_irem dX11_takeOff_20 (by decide) ?_
  refine wp_dup2 dX11_takeOff_21 rfl rfl ?_
  obtain ⟨b4, h⟩ := h
  refine wp_iald (n := 8) dX11_takeOff_22 rfl rfl b4 ?_
  refine wp_iconst (v := 1) dX11_takeOff_23 (by decide) ?_
  refine wp_isub dX11_takeOff_24 ?_
  obtain ⟨b5, h⟩ := h
  refine wp_iast (n := 8) dX11_takeOff_25 rfl rfl b5 ?_
  refine wp_topM (fun M6 hM6 => ?_)
  replace h := h M6 hM6
  exact wp_vret dX11_takeOff_26 rfl h
abbrev P_X11_days_51 (G : Glob) (x1 : Int32) (x2 : Int32) (x3 : Int32) (x4 : Int32) (M : Mem) (Q : Option Value → Mem → Prop) : Prop := Wp G 6 Y_X11_days 51 [some (.ref (ad G 71)), some (.int x1), some (.int x2), some (.int x3), some (.int x4), none, none, none, none, none] [] M Q
abbrev P_X11_days_80 (G : Glob) (x1 : Int32) (x2 : Int32) (x3 : Int32) (x4 : Int32) (x5 : Int32) (x6 : Int32) (M : Mem) (Q : Option Value → Mem → Prop) : Prop := Wp G 6 Y_X11_days 80 [some (.ref (ad G 71)), some (.int x1), some (.int x2), some (.int x3), some (.int x4), some (.int x5), some (.int x6), none, none, none] [] M Q
abbrev P_X11_days_95 (G : Glob) (x1 : Int32) (x2 : Int32) (x3 : Int32) (x4 : Int32) (x5 : Int32) (x6 : Int32) (x7 : Int32) (x8 : Int32) (x9 : Int32) (M : Mem) (Q : Option Value → Mem → Prop) : Prop := Wp G 6 Y_X11_days 95 [some (.ref (ad G 71)), some (.int x1), some (.int x2), some (.int x3), some (.int x4), some (.int x5), some (.int x6), some (.int x7), some (.int x8), some (.int x9)] [] M Q
abbrev P_X11_days_146 (G : Glob) (x1 : Int32) (x2 : Int32) (x3 : Int32) (x4 : Int32) (x5 : Int32) (x6 : Int32) (x7 : Int32) (x8 : Int32) (x9 : Int32) (M : Mem) (Q : Option Value → Mem → Prop) : Prop := Wp G 6 Y_X11_days 146 [some (.ref (ad G 71)), some (.int x1), some (.int x2), some (.int x3), some (.int x4), some (.int x5), some (.int x6), some (.int x7), some (.int x8), some (.int x9)] [] M Q
abbrev P_X11_days_226 (G : Glob) (x1 : Int32) (x2 : Int32) (x4 : Int32) (x5 : Int32) (x6 : Int32) (x7 : Int32) (M : Mem) (Q : Option Value → Mem → Prop) : Prop := Wp G 6 Y_X11_days 226 [some (.ref (ad G 71)), some (.int x1), some (.int x2), none, some (.int x4), some (.int x5), some (.int x6), some (.int x7), none, none] [] M Q
set_option maxRecDepth 20000 in
theorem v_X11_days_51 {G : Glob} {x1 : Int32} {x2 : Int32} {x3 : Int32} {x4 : Int32} {M : Mem} {Q : Option Value → Mem → Prop}  (h : ((x4 < x1 → P_X11_days_51 G x1 x2 (x3 * (M.1 71 34)) (x4 + 1) M Q) ∧ (¬ x4 < x1 → P_X11_days_80 G x1 x2 x3 (-9 : Int32) 0 0 M Q))) : P_X11_days_51 G x1 x2 x3 x4 M Q := by
  refine wp_iload dX11_days_51 rfl ?_
  refine wp_iload_n dX11_days_53 rfl rfl ?_
  refine wp_icmp_ge (tgt := 70) dX11_days_54 (by decide) (fun c1 => ?_) (fun c1 => ?_)
  · replace h := h.2 c1
    refine wp_bipush (v := (-9 : Int32)) dX11_days_70 (by decide) ?_
    refine wp_istore (ls' := [some (.ref (ad G 71)), some (.int x1), some (.int x2), some (.int x3), some (.int (-9 : Int32)), none, none, none, none, none]) dX11_days_72 (by decide) rfl rfl ?_
    refine wp_iconst (v := 0) dX11_days_74 (by decide) ?_
    refine wp_istore (ls' := [some (.ref (ad G 71)), some (.int x1), some (.int x2), some (.int x3), some (.int (-9 : Int32)), some (.int 0), none, none, none, none]) dX11_days_75 (by decide) rfl rfl ?_
    refine wp_iconst (v := 0) dX11_days_77 (by decide) ?_
    refine wp_istore (ls' := [some (.ref (ad G 71)), some (.int x1), some (.int x2), some (.int x3), some (.int (-9 : Int32)), some (.int 0), some (.int 0), none, none, none]) dX11_days_78 (by decide) rfl rfl ?_
    exact h
  · replace h := h.1 c1
    refine wp_iload_n dX11_days_57 rfl rfl ?_
    refine wp_aload_n dX11_days_58 rfl rfl ?_
    refine wp_getI dX11_days_59 rfl fb_11_34 m_4_189 ?_
    refine wp_imul dX11_days_62 ?_
    refine wp_istore_n (ls' := [some (.ref (ad G 71)), some (.int x1), some (.int x2), some (.int (x3 * (M.1 71 34))), some (.int x4), none, none, none, none, none]) dX11_days_63 rfl (by decide) rfl rfl ?_
    refine wp_iinc (v := (x4 + 1)) (ls' := [some (.ref (ad G 71)), some (.int x1), some (.int x2), some (.int (x3 * (M.1 71 34))), some (.int (x4 + 1)), none, none, none, none, none]) dX11_days_64 rfl rfl (by decide) rfl rfl ?_
    refine wp_goto (tgt := 51) dX11_days_67 (by decide) ?_
    exact h
set_option maxRecDepth 20000 in
theorem v_X11_days_80 {G : Glob} {x1 : Int32} {x2 : Int32} {x3 : Int32} {x4 : Int32} {x5 : Int32} {x6 : Int32} {M : Mem} {Q : Option Value → Mem → Prop}  (h : ((x6 < x3 → P_X11_days_95 G x1 x2 x3 x4 x5 x6 0 x3 0 M Q) ∧ (¬ x6 < x3 → (WpM G 1 Y_X11_clearRow [.ref (ad G 71), .int x2, .int x1] M (RV (fun M2 => P_X11_days_226 G x1 x2 x4 x5 x3 0 M2 Q)))))) : P_X11_days_80 G x1 x2 x3 x4 x5 x6 M Q := by
  refine wp_iload dX11_days_80 rfl ?_
  refine wp_iload_n dX11_days_82 rfl rfl ?_
  refine wp_icmp_ge (tgt := 214) dX11_days_83 (by decide) (fun c1 => ?_) (fun c1 => ?_)
  · replace h := h.2 c1
    refine wp_aload_n dX11_days_214 rfl rfl ?_
    refine wp_iload_n dX11_days_215 rfl rfl ?_
    refine wp_iload_n dX11_days_216 rfl rfl ?_
    refine wp_callVV (a := 71) (d1 := 1) (As := [.int x2, .int x1]) (st := []) dX11_days_217 rfl cm_X11_clearRow m_5_39 (by decide) rfl (Nat.le_of_ble_eq_true rfl) rfl h ?_
    intro M2 h
    refine wp_iload_n dX11_days_220 rfl rfl ?_
    refine wp_istore (ls' := [some (.ref (ad G 71)), some (.int x1), some (.int x2), some (.int x3), some (.int x4), some (.int x5), some (.int x3), none, none, none]) dX11_days_221 (by decide) rfl rfl ?_
    refine wp_iconst (v := 0) dX11_days_223 (by decide) ?_
    refine wp_istore (ls' := [some (.ref (ad G 71)), some (.int x1), some (.int x2), some (.int x3), some (.int x4), some (.int x5), some (.int x3), some (.int 0), none, none]) dX11_days_224 (by decide) rfl rfl ?_
    exact wp_mask [true, true, true, false, true, true, true, true, false, false] rfl h
  · replace h := h.1 c1
    refine wp_iconst (v := 0) dX11_days_86 (by decide) ?_
    refine wp_istore (ls' := [some (.ref (ad G 71)), some (.int x1), some (.int x2), some (.int x3), some (.int x4), some (.int x5), some (.int x6), some (.int 0), none, none]) dX11_days_87 (by decide) rfl rfl ?_
    refine wp_iload_n dX11_days_89 rfl rfl ?_
    refine wp_istore (ls' := [some (.ref (ad G 71)), some (.int x1), some (.int x2), some (.int x3), some (.int x4), some (.int x5), some (.int x6), some (.int 0), some (.int x3), none]) dX11_days_90 (by decide) rfl rfl ?_
    refine wp_iconst (v := 0) dX11_days_92 (by decide) ?_
    refine wp_istore (ls' := [some (.ref (ad G 71)), some (.int x1), some (.int x2), some (.int x3), some (.int x4), some (.int x5), some (.int x6), some (.int 0), some (.int x3), some (.int 0)]) dX11_days_93 (by decide) rfl rfl ?_
    exact h
set_option maxRecDepth 20000 in
theorem v_X11_days_95 {G : Glob} {x1 : Int32} {x2 : Int32} {x3 : Int32} {x4 : Int32} {x5 : Int32} {x6 : Int32} {x7 : Int32} {x8 : Int32} {x9 : Int32} {M : Mem} {Q : Option Value → Mem → Prop}  (h : ((x9 < x1 → (¬ (M.1 71 34) = 0 ∧ (¬ (x8 / (M.1 71 34)) = 0 ∧ (¬ (M.1 71 34) = 0 ∧ (vp_in ((x6 / (x8 / (M.1 71 34))) - (x6 / (x8 / (M.1 71 34))) / (M.1 71 34) * (M.1 71 34)) 28 ∧ (WpM G 5 Y_X11_useOf [.ref (ad G 71), .int (M.1 93 ((x6 / (x8 / (M.1 71 34))) - (x6 / (x8 / (M.1 71 34))) / (M.1 71 34) * (M.1 71 34)).toNatClampNeg)] M (RI (fun r4 M3 => P_X11_days_95 G x1 x2 x3 x4 x5 x6 (x7 + r4) (x8 / (M.1 71 34)) (x9 + 1) M3 Q)))))))) ∧ (¬ x9 < x1 → P_X11_days_146 G x1 x2 x3 x4 x5 x6 x7 x3 0 M Q))) : P_X11_days_95 G x1 x2 x3 x4 x5 x6 x7 x8 x9 M Q := by
  refine wp_iload dX11_days_95 rfl ?_
  refine wp_iload_n dX11_days_97 rfl rfl ?_
  refine wp_icmp_ge (tgt := 140) dX11_days_98 (by decide) (fun c1 => ?_) (fun c1 => ?_)
  · replace h := h.2 c1
    refine wp_iload_n dX11_days_140 rfl rfl ?_
    refine wp_istore (ls' := [some (.ref (ad G 71)), some (.int x1), some (.int x2), some (.int x3), some (.int x4), some (.int x5), some (.int x6), some (.int x7), some (.int x3), some (.int x9)]) dX11_days_141 (by decide) rfl rfl ?_
    refine wp_iconst (v := 0) dX11_days_143 (by decide) ?_
    refine wp_istore (ls' := [some (.ref (ad G 71)), some (.int x1), some (.int x2), some (.int x3), some (.int x4), some (.int x5), some (.int x6), some (.int x7), some (.int x3), some (.int 0)]) dX11_days_144 (by decide) rfl rfl ?_
    exact h
  · replace h := h.1 c1
    refine wp_iload dX11_days_101 rfl ?_
    refine wp_aload_n dX11_days_103 rfl rfl ?_
    refine wp_getI dX11_days_104 rfl fb_11_34 m_4_189 ?_
    refine wp_idiv dX11_days_107 h.1 ?_
    replace h := h.2
    refine wp_istore (ls' := [some (.ref (ad G 71)), some (.int x1), some (.int x2), some (.int x3), some (.int x4), some (.int x5), some (.int x6), some (.int x7), some (.int (x8 / (M.1 71 34))), some (.int x9)]) dX11_days_108 (by decide) rfl rfl ?_
    refine wp_iload dX11_days_110 rfl ?_
    refine wp_aload_n dX11_days_112 rfl rfl ?_
    refine wp_aload_n dX11_days_113 rfl rfl ?_
    refine wp_getR (b := 93) dX11_days_114 rfl rfl fb_11_33 m_4_188 ?_
    refine wp_iload dX11_days_117 rfl ?_
    refine wp_iload dX11_days_119 rfl ?_
    refine wp_idiv dX11_days_121 h.1 ?_
    replace h := h.2
    refine wp_aload_n dX11_days_122 rfl rfl ?_
    refine wp_getI dX11_days_123 rfl fb_11_34 m_4_189 ?_
    refine wp_irem dX11_days_126 h.1 ?_
    replace h := h.2
    obtain ⟨b2, h⟩ := h
    refine wp_iald (n := 28) dX11_days_127 rfl rfl b2 ?_
    refine wp_callVI (a := 71) (d1 := 5) (As := [.int (M.1 93 ((x6 / (x8 / (M.1 71 34))) - (x6 / (x8 / (M.1 71 34))) / (M.1 71 34) * (M.1 71 34)).toNatClampNeg)]) (st := [.int x7]) dX11_days_128 rfl cm_X11_useOf m_5_237 (by decide) rfl (Nat.le_of_ble_eq_true rfl) rfl h ?_
    intro r4 M3 h
    refine wp_iadd dX11_days_131 ?_
    refine wp_istore (ls' := [some (.ref (ad G 71)), some (.int x1), some (.int x2), some (.int x3), some (.int x4), some (.int x5), some (.int x6), some (.int (x7 + r4)), some (.int (x8 / (M.1 71 34))), some (.int x9)]) dX11_days_132 (by decide) rfl rfl ?_
    refine wp_iinc (v := (x9 + 1)) (ls' := [some (.ref (ad G 71)), some (.int x1), some (.int x2), some (.int x3), some (.int x4), some (.int x5), some (.int x6), some (.int (x7 + r4)), some (.int (x8 / (M.1 71 34))), some (.int (x9 + 1))]) dX11_days_134 rfl rfl (by decide) rfl rfl ?_
    refine wp_goto (tgt := 95) dX11_days_137 (by decide) ?_
    exact h
set_option maxRecDepth 20000 in
theorem v_X11_days_146 {G : Glob} {x1 : Int32} {x2 : Int32} {x3 : Int32} {x4 : Int32} {x5 : Int32} {x6 : Int32} {x7 : Int32} {x8 : Int32} {x9 : Int32} {M : Mem} {Q : Option Value → Mem → Prop}  (h : ((x9 < x1 → (¬ (M.1 71 34) = 0 ∧ (¬ (x8 / (M.1 71 34)) = 0 ∧ (¬ (M.1 71 34) = 0 ∧ (vp_in ((x6 / (x8 / (M.1 71 34))) - (x6 / (x8 / (M.1 71 34))) / (M.1 71 34) * (M.1 71 34)) 28 ∧ (WpM G 1 Y_X11_takeOff [.ref (ad G 71), .int (M.1 93 ((x6 / (x8 / (M.1 71 34))) - (x6 / (x8 / (M.1 71 34))) / (M.1 71 34) * (M.1 71 34)).toNatClampNeg)] M (RV (fun M5 => P_X11_days_146 G x1 x2 x3 x4 x5 x6 x7 (x8 / (M.1 71 34)) (x9 + 1) M5 Q)))))))) ∧ (¬ x9 < x1 → ((x4 = (-9 : Int32) → P_X11_days_80 G x1 x2 x3 x6 x7 (x6 + 1) M Q) ∧ (¬ x4 = (-9 : Int32) → ((x5 < x7 → P_X11_days_80 G x1 x2 x3 x6 x7 (x6 + 1) M Q) ∧ (¬ x5 < x7 → P_X11_days_80 G x1 x2 x3 x4 x5 (x6 + 1) M Q))))))) : P_X11_days_146 G x1 x2 x3 x4 x5 x6 x7 x8 x9 M Q := by
  refine wp_iload dX11_days_146 rfl ?_
  refine wp_iload_n dX11_days_148 rfl rfl ?_
  refine wp_icmp_ge (tgt := 186) dX11_days_149 (by decide) (fun c1 => ?_) (fun c1 => ?_)
  · replace h := h.2 c1
    refine wp_iload dX11_days_186 rfl ?_
    refine wp_bipush (v := (-9 : Int32)) dX11_days_188 (by decide) ?_
    refine wp_icmp_eq (tgt := 200) dX11_days_190 (by decide) (fun c2 => ?_) (fun c2 => ?_)
    · replace h := h.1 c2
      refine wp_iload dX11_days_200 rfl ?_
      refine wp_istore (ls' := [some (.ref (ad G 71)), some (.int x1), some (.int x2), some (.int x3), some (.int x6), some (.int x5), some (.int x6), some (.int x7), some (.int x8), some (.int x9)]) dX11_days_202 (by decide) rfl rfl ?_
      refine wp_iload dX11_days_204 rfl ?_
      refine wp_istore (ls' := [some (.ref (ad G 71)), some (.int x1), some (.int x2), some (.int x3), some (.int x6), some (.int x7), some (.int x6), some (.int x7), some (.int x8), some (.int x9)]) dX11_days_206 (by decide) rfl rfl ?_
      refine wp_iinc (v := (x6 + 1)) (ls' := [some (.ref (ad G 71)), some (.int x1), some (.int x2), some (.int x3), some (.int x6), some (.int x7), some (.int (x6 + 1)), some (.int x7), some (.int x8), some (.int x9)]) dX11_days_208 rfl rfl (by decide) rfl rfl ?_
      refine wp_goto (tgt := 80) dX11_days_211 (by decide) ?_
      exact wp_mask [true, true, true, true, true, true, true, false, false, false] rfl h
    · replace h := h.2 c2
      refine wp_iload dX11_days_193 rfl ?_
      refine wp_iload dX11_days_195 rfl ?_
      refine wp_icmp_le (tgt := 208) dX11_days_197 (by decide) (fun c3 => ?_) (fun c3 => ?_)
      · replace h := h.2 c3
        refine wp_iinc (v := (x6 + 1)) (ls' := [some (.ref (ad G 71)), some (.int x1), some (.int x2), some (.int x3), some (.int x4), some (.int x5), some (.int (x6 + 1)), some (.int x7), some (.int x8), some (.int x9)]) dX11_days_208 rfl rfl (by decide) rfl rfl ?_
        refine wp_goto (tgt := 80) dX11_days_211 (by decide) ?_
        exact wp_mask [true, true, true, true, true, true, true, false, false, false] rfl h
      · replace h := h.1 c3
        refine wp_iload dX11_days_200 rfl ?_
        refine wp_istore (ls' := [some (.ref (ad G 71)), some (.int x1), some (.int x2), some (.int x3), some (.int x6), some (.int x5), some (.int x6), some (.int x7), some (.int x8), some (.int x9)]) dX11_days_202 (by decide) rfl rfl ?_
        refine wp_iload dX11_days_204 rfl ?_
        refine wp_istore (ls' := [some (.ref (ad G 71)), some (.int x1), some (.int x2), some (.int x3), some (.int x6), some (.int x7), some (.int x6), some (.int x7), some (.int x8), some (.int x9)]) dX11_days_206 (by decide) rfl rfl ?_
        refine wp_iinc (v := (x6 + 1)) (ls' := [some (.ref (ad G 71)), some (.int x1), some (.int x2), some (.int x3), some (.int x6), some (.int x7), some (.int (x6 + 1)), some (.int x7), some (.int x8), some (.int x9)]) dX11_days_208 rfl rfl (by decide) rfl rfl ?_
        refine wp_goto (tgt := 80) dX11_days_211 (by decide) ?_
        exact wp_mask [true, true, true, true, true, true, true, false, false, false] rfl h
  · replace h := h.1 c1
    refine wp_iload dX11_days_152 rfl ?_
    refine wp_aload_n dX11_days_154 rfl rfl ?_
    refine wp_getI dX11_days_155 rfl fb_11_34 m_4_189 ?_
    refine wp_idiv dX11_days_158 h.1 ?_
    replace h := h.2
    refine wp_istore (ls' := [some (.ref (ad G 71)), some (.int x1), some (.int x2), some (.int x3), some (.int x4), some (.int x5), some (.int x6), some (.int x7), some (.int (x8 / (M.1 71 34))), some (.int x9)]) dX11_days_159 (by decide) rfl rfl ?_
    refine wp_aload_n dX11_days_161 rfl rfl ?_
    refine wp_aload_n dX11_days_162 rfl rfl ?_
    refine wp_getR (b := 93) dX11_days_163 rfl rfl fb_11_33 m_4_188 ?_
    refine wp_iload dX11_days_166 rfl ?_
    refine wp_iload dX11_days_168 rfl ?_
    refine wp_idiv dX11_days_170 h.1 ?_
    replace h := h.2
    refine wp_aload_n dX11_days_171 rfl rfl ?_
    refine wp_getI dX11_days_172 rfl fb_11_34 m_4_189 ?_
    refine wp_irem dX11_days_175 h.1 ?_
    replace h := h.2
    obtain ⟨b4, h⟩ := h
    refine wp_iald (n := 28) dX11_days_176 rfl rfl b4 ?_
    refine wp_callVV (a := 71) (d1 := 1) (As := [.int (M.1 93 ((x6 / (x8 / (M.1 71 34))) - (x6 / (x8 / (M.1 71 34))) / (M.1 71 34) * (M.1 71 34)).toNatClampNeg)]) (st := []) dX11_days_177 rfl cm_X11_takeOff m_6_1 (by decide) rfl (Nat.le_of_ble_eq_true rfl) rfl h ?_
    intro M5 h
    refine wp_iinc (v := (x9 + 1)) (ls' := [some (.ref (ad G 71)), some (.int x1), some (.int x2), some (.int x3), some (.int x4), some (.int x5), some (.int x6), some (.int x7), some (.int (x8 / (M.1 71 34))), some (.int (x9 + 1))]) dX11_days_180 rfl rfl (by decide) rfl rfl ?_
    refine wp_goto (tgt := 146) dX11_days_183 (by decide) ?_
    exact h
set_option maxRecDepth 20000 in
theorem v_X11_days_226 {G : Glob} {x1 : Int32} {x2 : Int32} {x4 : Int32} {x5 : Int32} {x6 : Int32} {x7 : Int32} {M : Mem} {Q : Option Value → Mem → Prop}  (h : ((x7 < x1 → (¬ (M.1 71 34) = 0 ∧ (¬ (x6 / (M.1 71 34)) = 0 ∧ (¬ (M.1 71 34) = 0 ∧ (vp_in ((x4 / (x6 / (M.1 71 34))) - (x4 / (x6 / (M.1 71 34))) / (M.1 71 34) * (M.1 71 34)) 28 ∧ (vp_in ((40 * x2) + x7) 240 ∧ (∀ M4 : Mem, M4 = upI M 73 (((40 * x2) + x7).toNatClampNeg) (M.1 93 ((x4 / (x6 / (M.1 71 34))) - (x4 / (x6 / (M.1 71 34))) / (M.1 71 34) * (M.1 71 34)).toNatClampNeg) → P_X11_days_226 G x1 x2 x4 x5 (x6 / (M.1 71 34)) (x7 + 1) M4 Q))))))) ∧ (¬ x7 < x1 → Q (some (.int x5)) M))) : P_X11_days_226 G x1 x2 x4 x5 x6 x7 M Q := by
  refine wp_iload dX11_days_226 rfl ?_
  refine wp_iload_n dX11_days_228 rfl rfl ?_
  refine wp_icmp_ge (tgt := 274) dX11_days_229 (by decide) (fun c1 => ?_) (fun c1 => ?_)
  · replace h := h.2 c1
    refine wp_iload dX11_days_274 rfl ?_
    exact wp_iret (ty := .int) dX11_days_276 rfl rfl h
  · replace h := h.1 c1
    refine wp_iload dX11_days_232 rfl ?_
    refine wp_aload_n dX11_days_234 rfl rfl ?_
    refine wp_getI dX11_days_235 rfl fb_11_34 m_4_189 ?_
    refine wp_idiv dX11_days_238 h.1 ?_
    replace h := h.2
    refine wp_istore (ls' := [some (.ref (ad G 71)), some (.int x1), some (.int x2), none, some (.int x4), some (.int x5), some (.int (x6 / (M.1 71 34))), some (.int x7), none, none]) dX11_days_239 (by decide) rfl rfl ?_
    refine wp_aload_n dX11_days_241 rfl rfl ?_
    refine wp_getR (b := 73) dX11_days_242 rfl rfl fb_11_5 m_4_160 ?_
    refine wp_bipush (v := 40) dX11_days_245 (by decide) ?_
    refine wp_iload_n dX11_days_247 rfl rfl ?_
    refine wp_imul dX11_days_248 ?_
    refine wp_iload dX11_days_249 rfl ?_
    refine wp_iadd dX11_days_251 ?_
    refine wp_aload_n dX11_days_252 rfl rfl ?_
    refine wp_getR (b := 93) dX11_days_253 rfl rfl fb_11_33 m_4_188 ?_
    refine wp_iload dX11_days_256 rfl ?_
    refine wp_iload dX11_days_258 rfl ?_
    refine wp_idiv dX11_days_260 h.1 ?_
    replace h := h.2
    refine wp_aload_n dX11_days_261 rfl rfl ?_
    refine wp_getI dX11_days_262 rfl fb_11_34 m_4_189 ?_
    refine wp_irem dX11_days_265 h.1 ?_
    replace h := h.2
    obtain ⟨b2, h⟩ := h
    refine wp_iald (n := 28) dX11_days_266 rfl rfl b2 ?_
    obtain ⟨b3, h⟩ := h
    refine wp_iast (n := 240) dX11_days_267 rfl rfl b3 ?_
    refine wp_topM (fun M4 hM4 => ?_)
    replace h := h M4 hM4
    refine wp_iinc (v := (x7 + 1)) (ls' := [some (.ref (ad G 71)), some (.int x1), some (.int x2), none, some (.int x4), some (.int x5), some (.int (x6 / (M.1 71 34))), some (.int (x7 + 1)), none, none]) dX11_days_268 rfl rfl (by decide) rfl rfl ?_
    refine wp_goto (tgt := 226) dX11_days_271 (by decide) ?_
    exact h
abbrev C_X11_days (G : Glob) (x1 : Int32) (x2 : Int32) (M : Mem) (Q : Option Value → Mem → Prop) : Prop := WpM G 6 Y_X11_days [.ref (ad G 71), .int x1, .int x2] M Q
set_option maxRecDepth 20000 in
theorem v_X11_days {G : Glob} {x1 : Int32} {x2 : Int32} {M : Mem} {Q : Option Value → Mem → Prop}  (h : (WpM G 1 Y_X11_in [.int x1, .int 0, .int 3] M (RI (fun r2 M1 => ((r2 = 0 → Q (some (.int (-1 : Int32))) M1) ∧ (¬ r2 = 0 → (WpM G 2 Y_X11_isRow [.int x2] M1 (RI (fun r5 M4 => ((r5 = 0 → Q (some (.int (-1 : Int32))) M4) ∧ (¬ r5 = 0 → (((M4.1 71 20) = 0 → Q (some (.int (-4 : Int32))) M4) ∧ (¬ (M4.1 71 20) = 0 → (WpM G 5 Y_X11_listTwos [.ref (ad G 71)] M4 (RV (fun M8 => (((0 : Int32) < x1 → (((M8.1 71 34) = 0 → Q (some (.int (-9 : Int32))) M8) ∧ (¬ (M8.1 71 34) = 0 → P_X11_days_51 G x1 x2 1 0 M8 Q))) ∧ (¬ (0 : Int32) < x1 → P_X11_days_51 G x1 x2 1 0 M8 Q)))))))))))))))))) : C_X11_days G x1 x2 M Q := by
  refine wp_enter (ls0 := [some (.ref (ad G 71)), some (.int x1), some (.int x2), none, none, none, none, none, none, none]) (by decide +kernel) (Nat.le_of_ble_eq_true rfl) rfl ?_
  refine wp_iload_n dX11_days_0 rfl rfl ?_
  refine wp_iconst (v := 0) dX11_days_1 (by decide) ?_
  refine wp_iconst (v := 3) dX11_days_2 (by decide) ?_
  refine wp_callSI (d1 := 1) (As := [.int x1, .int 0, .int 3]) (st := []) dX11_days_3 cm_X11_in m_5_32 (by decide) rfl (Nat.le_of_ble_eq_true rfl) rfl h ?_
  intro r2 M1 h
  refine wp_if_eq (tgt := 16) dX11_days_6 (by decide) (fun c3 => ?_) (fun c3 => ?_)
  · replace h := h.1 c3
    refine wp_iconst (v := (-1 : Int32)) dX11_days_16 (by decide) ?_
    exact wp_iret (ty := .int) dX11_days_17 rfl rfl h
  · replace h := h.2 c3
    refine wp_iload_n dX11_days_9 rfl rfl ?_
    refine wp_callSI (d1 := 2) (As := [.int x2]) (st := []) dX11_days_10 cm_X11_isRow m_5_29 (by decide) rfl (Nat.le_of_ble_eq_true rfl) rfl h ?_
    intro r5 M4 h
    refine wp_if_ne (tgt := 18) dX11_days_13 (by decide) (fun c6 => ?_) (fun c6 => ?_)
    · replace h := h.2 c6
      refine wp_aload_n dX11_days_18 rfl rfl ?_
      refine wp_getI dX11_days_19 rfl fb_11_20 m_4_175 ?_
      refine wp_if_ne (tgt := 28) dX11_days_22 (by decide) (fun c7 => ?_) (fun c7 => ?_)
      · replace h := h.2 c7
        refine wp_aload_n dX11_days_28 rfl rfl ?_
        refine wp_callVV (a := 71) (d1 := 5) (As := []) (st := []) dX11_days_29 rfl cm_X11_listTwos m_5_233 (by decide) rfl (Nat.le_of_ble_eq_true rfl) rfl h ?_
        intro M8 h
        refine wp_iload_n dX11_days_32 rfl rfl ?_
        refine wp_if_le (tgt := 46) dX11_days_33 (by decide) (fun c9 => ?_) (fun c9 => ?_)
        · replace h := h.2 c9
          refine wp_iconst (v := 1) dX11_days_46 (by decide) ?_
          refine wp_istore_n (ls' := [some (.ref (ad G 71)), some (.int x1), some (.int x2), some (.int 1), none, none, none, none, none, none]) dX11_days_47 rfl (by decide) rfl rfl ?_
          refine wp_iconst (v := 0) dX11_days_48 (by decide) ?_
          refine wp_istore (ls' := [some (.ref (ad G 71)), some (.int x1), some (.int x2), some (.int 1), some (.int 0), none, none, none, none, none]) dX11_days_49 (by decide) rfl rfl ?_
          exact h
        · replace h := h.1 c9
          refine wp_aload_n dX11_days_36 rfl rfl ?_
          refine wp_getI dX11_days_37 rfl fb_11_34 m_4_189 ?_
          refine wp_if_ne (tgt := 46) dX11_days_40 (by decide) (fun c10 => ?_) (fun c10 => ?_)
          · replace h := h.2 c10
            refine wp_iconst (v := 1) dX11_days_46 (by decide) ?_
            refine wp_istore_n (ls' := [some (.ref (ad G 71)), some (.int x1), some (.int x2), some (.int 1), none, none, none, none, none, none]) dX11_days_47 rfl (by decide) rfl rfl ?_
            refine wp_iconst (v := 0) dX11_days_48 (by decide) ?_
            refine wp_istore (ls' := [some (.ref (ad G 71)), some (.int x1), some (.int x2), some (.int 1), some (.int 0), none, none, none, none, none]) dX11_days_49 (by decide) rfl rfl ?_
            exact h
          · replace h := h.1 c10
            refine wp_bipush (v := (-9 : Int32)) dX11_days_43 (by decide) ?_
            exact wp_iret (ty := .int) dX11_days_45 rfl rfl h
      · replace h := h.1 c7
        refine wp_bipush (v := (-4 : Int32)) dX11_days_25 (by decide) ?_
        exact wp_iret (ty := .int) dX11_days_27 rfl rfl h
    · replace h := h.1 c6
      refine wp_iconst (v := (-1 : Int32)) dX11_days_16 (by decide) ?_
      exact wp_iret (ty := .int) dX11_days_17 rfl rfl h
abbrev P_X11_worstOf_5 (G : Glob) (x1 : Int32) (x2 : Int32) (x3 : Int32) (M : Mem) (Q : Option Value → Mem → Prop) : Prop := Wp G 1 Y_X11_worstOf 5 [some (.ref (ad G 71)), some (.int x1), some (.int x2), some (.int x3), none] [] M Q
set_option maxRecDepth 20000 in
theorem v_X11_worstOf_5 {G : Glob} {x1 : Int32} {x2 : Int32} {x3 : Int32} {M : Mem} {Q : Option Value → Mem → Prop}  (h : ((x3 < (M.1 71 20) → ((((x1 >>> (x3 &&& 31)) &&& 1) = 1 → (vp_in x3 8 ∧ (((M.1 82 x3.toNatClampNeg) = 3 → P_X11_worstOf_5 G x1 x2 (x3 + 1) M Q) ∧ (¬ (M.1 82 x3.toNatClampNeg) = 3 → (vp_in (x1 &&& ((1 <<< (x3 &&& 31)) ^^^ (-1 : Int32))) 256 ∧ (∀ y8 : Int32, y8 = (M.1 91 (x1 &&& ((1 <<< (x3 &&& 31)) ^^^ (-1 : Int32))).toNatClampNeg) → ((x2 = (-9 : Int32) → P_X11_worstOf_5 G x1 y8 (x3 + 1) M Q) ∧ (¬ x2 = (-9 : Int32) → ((y8 < x2 → P_X11_worstOf_5 G x1 y8 (x3 + 1) M Q) ∧ (¬ y8 < x2 → P_X11_worstOf_5 G x1 x2 (x3 + 1) M Q)))))))))) ∧ (¬ ((x1 >>> (x3 &&& 31)) &&& 1) = 1 → P_X11_worstOf_5 G x1 x2 (x3 + 1) M Q))) ∧ (¬ x3 < (M.1 71 20) → ((x2 = (-9 : Int32) → (vp_in x1 256 ∧ Q (some (.int (M.1 91 x1.toNatClampNeg))) M)) ∧ (¬ x2 = (-9 : Int32) → Q (some (.int x2)) M))))) : P_X11_worstOf_5 G x1 x2 x3 M Q := by
  refine wp_iload_n dX11_worstOf_5 rfl rfl ?_
  refine wp_aload_n dX11_worstOf_6 rfl rfl ?_
  refine wp_getI dX11_worstOf_7 rfl fb_11_20 m_4_175 ?_
  refine wp_icmp_ge (tgt := 71) dX11_worstOf_10 (by decide) (fun c1 => ?_) (fun c1 => ?_)
  · replace h := h.2 c1
    refine wp_iload_n dX11_worstOf_71 rfl rfl ?_
    refine wp_bipush (v := (-9 : Int32)) dX11_worstOf_72 (by decide) ?_
    refine wp_icmp_ne (tgt := 86) dX11_worstOf_74 (by decide) (fun c2 => ?_) (fun c2 => ?_)
    · replace h := h.2 c2
      refine wp_iload_n dX11_worstOf_86 rfl rfl ?_
      exact wp_iret (ty := .int) dX11_worstOf_87 rfl rfl h
    · replace h := h.1 c2
      refine wp_aload_n dX11_worstOf_77 rfl rfl ?_
      refine wp_getR (b := 91) dX11_worstOf_78 rfl rfl fb_11_31 m_4_186 ?_
      refine wp_iload_n dX11_worstOf_81 rfl rfl ?_
      obtain ⟨b3, h⟩ := h
      refine wp_iald (n := 256) dX11_worstOf_82 rfl rfl b3 ?_
      refine wp_goto (tgt := 87) dX11_worstOf_83 (by decide) ?_
      exact wp_iret (ty := .int) dX11_worstOf_87 rfl rfl h
  · replace h := h.1 c1
    refine wp_iload_n dX11_worstOf_13 rfl rfl ?_
    refine wp_iload_n dX11_worstOf_14 rfl rfl ?_
    refine wp_ishr dX11_worstOf_15 ?_
    refine wp_iconst (v := 1) dX11_worstOf_16 (by decide) ?_
    refine wp_iand dX11_worstOf_17 ?_
    refine wp_iconst (v := 1) dX11_worstOf_18 (by decide) ?_
    refine wp_icmp_ne (tgt := 65) dX11_worstOf_19 (by decide) (fun c4 => ?_) (fun c4 => ?_)
    · replace h := h.2 c4
      refine wp_iinc (v := (x3 + 1)) (ls' := [some (.ref (ad G 71)), some (.int x1), some (.int x2), some (.int (x3 + 1)), none]) dX11_worstOf_65 rfl rfl (by decide) rfl rfl ?_
      refine wp_goto (tgt := 5) dX11_worstOf_68 (by decide) ?_
      exact h
    · replace h := h.1 c4
      refine wp_aload_n dX11_worstOf_22 rfl rfl ?_
      refine wp_getR (b := 82) dX11_worstOf_23 rfl rfl fb_11_21 m_4_176 ?_
      refine wp_iload_n dX11_worstOf_26 rfl rfl ?_
      obtain ⟨b5, h⟩ := h
      refine wp_iald (n := 8) dX11_worstOf_27 rfl rfl b5 ?_
      refine wp_iconst (v := 3) dX11_worstOf_28 (by decide) ?_
      refine wp_icmp_eq (tgt := 65) dX11_worstOf_29 (by decide) (fun c6 => ?_) (fun c6 => ?_)
      · replace h := h.1 c6
        refine wp_iinc (v := (x3 + 1)) (ls' := [some (.ref (ad G 71)), some (.int x1), some (.int x2), some (.int (x3 + 1)), none]) dX11_worstOf_65 rfl rfl (by decide) rfl rfl ?_
        refine wp_goto (tgt := 5) dX11_worstOf_68 (by decide) ?_
        exact h
      · replace h := h.2 c6
        refine wp_aload_n dX11_worstOf_32 rfl rfl ?_
        refine wp_getR (b := 91) dX11_worstOf_33 rfl rfl fb_11_31 m_4_186 ?_
        refine wp_iload_n dX11_worstOf_36 rfl rfl ?_
        refine wp_iconst (v := 1) dX11_worstOf_37 (by decide) ?_
        refine wp_iload_n dX11_worstOf_38 rfl rfl ?_
        refine wp_ishl dX11_worstOf_39 ?_
        refine wp_iconst (v := (-1 : Int32)) dX11_worstOf_40 (by decide) ?_
        refine wp_ixor dX11_worstOf_41 ?_
        refine wp_iand dX11_worstOf_42 ?_
        obtain ⟨b7, h⟩ := h
        refine wp_iald (n := 256) dX11_worstOf_43 rfl rfl b7 ?_
        refine wp_topI (fun y8 hy8 => ?_)
        replace h := h y8 hy8
        refine wp_istore (ls' := [some (.ref (ad G 71)), some (.int x1), some (.int x2), some (.int x3), some (.int y8)]) dX11_worstOf_44 (by decide) rfl rfl ?_
        refine wp_iload_n dX11_worstOf_46 rfl rfl ?_
        refine wp_bipush (v := (-9 : Int32)) dX11_worstOf_47 (by decide) ?_
        refine wp_icmp_eq (tgt := 58) dX11_worstOf_49 (by decide) (fun c9 => ?_) (fun c9 => ?_)
        · replace h := h.1 c9
          refine wp_iload dX11_worstOf_58 rfl ?_
          refine wp_goto (tgt := 64) dX11_worstOf_60 (by decide) ?_
          refine wp_istore_n (ls' := [some (.ref (ad G 71)), some (.int x1), some (.int y8), some (.int x3), some (.int y8)]) dX11_worstOf_64 rfl (by decide) rfl rfl ?_
          refine wp_iinc (v := (x3 + 1)) (ls' := [some (.ref (ad G 71)), some (.int x1), some (.int y8), some (.int (x3 + 1)), some (.int y8)]) dX11_worstOf_65 rfl rfl (by decide) rfl rfl ?_
          refine wp_goto (tgt := 5) dX11_worstOf_68 (by decide) ?_
          exact wp_mask [true, true, true, true, false] rfl h
        · replace h := h.2 c9
          refine wp_iload dX11_worstOf_52 rfl ?_
          refine wp_iload_n dX11_worstOf_54 rfl rfl ?_
          refine wp_icmp_ge (tgt := 63) dX11_worstOf_55 (by decide) (fun c10 => ?_) (fun c10 => ?_)
          · replace h := h.2 c10
            refine wp_iload_n dX11_worstOf_63 rfl rfl ?_
            refine wp_istore_n (ls' := [some (.ref (ad G 71)), some (.int x1), some (.int x2), some (.int x3), some (.int y8)]) dX11_worstOf_64 rfl (by decide) rfl rfl ?_
            refine wp_iinc (v := (x3 + 1)) (ls' := [some (.ref (ad G 71)), some (.int x1), some (.int x2), some (.int (x3 + 1)), some (.int y8)]) dX11_worstOf_65 rfl rfl (by decide) rfl rfl ?_
            refine wp_goto (tgt := 5) dX11_worstOf_68 (by decide) ?_
            exact wp_mask [true, true, true, true, false] rfl h
          · replace h := h.1 c10
            refine wp_iload dX11_worstOf_58 rfl ?_
            refine wp_goto (tgt := 64) dX11_worstOf_60 (by decide) ?_
            refine wp_istore_n (ls' := [some (.ref (ad G 71)), some (.int x1), some (.int y8), some (.int x3), some (.int y8)]) dX11_worstOf_64 rfl (by decide) rfl rfl ?_
            refine wp_iinc (v := (x3 + 1)) (ls' := [some (.ref (ad G 71)), some (.int x1), some (.int y8), some (.int (x3 + 1)), some (.int y8)]) dX11_worstOf_65 rfl rfl (by decide) rfl rfl ?_
            refine wp_goto (tgt := 5) dX11_worstOf_68 (by decide) ?_
            exact wp_mask [true, true, true, true, false] rfl h
abbrev C_X11_worstOf (G : Glob) (x1 : Int32) (M : Mem) (Q : Option Value → Mem → Prop) : Prop := WpM G 1 Y_X11_worstOf [.ref (ad G 71), .int x1] M Q
set_option maxRecDepth 20000 in
theorem v_X11_worstOf {G : Glob} {x1 : Int32} {M : Mem} {Q : Option Value → Mem → Prop}  (h : P_X11_worstOf_5 G x1 (-9 : Int32) 0 M Q) : C_X11_worstOf G x1 M Q := by
  refine wp_enter (ls0 := [some (.ref (ad G 71)), some (.int x1), none, none, none]) (by decide +kernel) (Nat.le_of_ble_eq_true rfl) rfl ?_
  refine wp_bipush (v := (-9 : Int32)) dX11_worstOf_0 (by decide) ?_
  refine wp_istore_n (ls' := [some (.ref (ad G 71)), some (.int x1), some (.int (-9 : Int32)), none, none]) dX11_worstOf_2 rfl (by decide) rfl rfl ?_
  refine wp_iconst (v := 0) dX11_worstOf_3 (by decide) ?_
  refine wp_istore_n (ls' := [some (.ref (ad G 71)), some (.int x1), some (.int (-9 : Int32)), some (.int 0), none]) dX11_worstOf_4 rfl (by decide) rfl rfl ?_
  exact h
abbrev P_X11_room_24 (G : Glob) (x1 : Int32) (x2 : Int32) (x3 : Int32) (M : Mem) (Q : Option Value → Mem → Prop) : Prop := Wp G 6 Y_X11_room 24 [some (.ref (ad G 71)), some (.int x1), some (.int x2), some (.int x3), none] [] M Q
set_option maxRecDepth 20000 in
theorem v_X11_room_24 {G : Glob} {x1 : Int32} {x2 : Int32} {x3 : Int32} {M : Mem} {Q : Option Value → Mem → Prop}  (h : (WpM G 1 Y_X11_all [.ref (ad G 71)] M (RI (fun r2 M1 => ((r2 < x3 → (WpM G 1 Y_X11_worstOf [.ref (ad G 71), .int x2] M1 (RI (fun r5 M4 => (∀ M6 : Mem, M6 = upI M4 71 0 r5 → Q (some (.int x2)) M6))))) ∧ (¬ r2 < x3 → (((x3 &&& (x1 ^^^ (-1 : Int32))) = 0 → (WpM G 1 Y_X11_manyOf [.int x3] M1 (RI (fun r9 M8 => (((M8.1 71 19) < r9 → P_X11_room_24 G x1 x2 (x3 + 1) M8 Q) ∧ (¬ (M8.1 71 19) < r9 → (WpM G 1 Y_X11_worstOf [.ref (ad G 71), .int x3] M8 (RI (fun r12 M11 => (WpM G 1 Y_X11_worstOf [.ref (ad G 71), .int x2] M11 (RI (fun r14 M13 => (((0 : Int32) < (r12 - r14) → P_X11_room_24 G x1 x3 (x3 + 1) M13 Q) ∧ (¬ (0 : Int32) < (r12 - r14) → (((r12 - r14) = 0 → (WpM G 1 Y_X11_manyOf [.int x3] M13 (RI (fun r18 M17 => (WpM G 1 Y_X11_manyOf [.int x2] M17 (RI (fun r20 M19 => ((r18 < r20 → P_X11_room_24 G x1 x3 (x3 + 1) M19 Q) ∧ (¬ r18 < r20 → P_X11_room_24 G x1 x2 (x3 + 1) M19 Q))))))))) ∧ (¬ (r12 - r14) = 0 → P_X11_room_24 G x1 x2 (x3 + 1) M13 Q)))))))))))))))) ∧ (¬ (x3 &&& (x1 ^^^ (-1 : Int32))) = 0 → P_X11_room_24 G x1 x2 (x3 + 1) M1 Q)))))))) : P_X11_room_24 G x1 x2 x3 M Q := by
  refine wp_iload_n dX11_room_24 rfl rfl ?_
  refine wp_aload_n dX11_room_25 rfl rfl ?_
  refine wp_callVI (a := 71) (d1 := 1) (As := []) (st := [.int x3]) dX11_room_26 rfl cm_X11_all m_5_206 (by decide) rfl (Nat.le_of_ble_eq_true rfl) rfl h ?_
  intro r2 M1 h
  refine wp_icmp_gt (tgt := 97) dX11_room_29 (by decide) (fun c3 => ?_) (fun c3 => ?_)
  · replace h := h.1 c3
    refine wp_aload_n dX11_room_97 rfl rfl ?_
    refine wp_aload_n dX11_room_98 rfl rfl ?_
    refine wp_iload_n dX11_room_99 rfl rfl ?_
    refine wp_callVI (a := 71) (d1 := 1) (As := [.int x2]) (st := [.ref (ad G 71)]) dX11_room_100 rfl cm_X11_worstOf m_6_9 (by decide) rfl (Nat.le_of_ble_eq_true rfl) rfl h ?_
    intro r5 M4 h
    refine wp_putI dX11_room_103 rfl fp_11_0 m_4_155 ?_
    refine wp_topM (fun M6 hM6 => ?_)
    replace h := h M6 hM6
    refine wp_iload_n dX11_room_106 rfl rfl ?_
    exact wp_iret (ty := .int) dX11_room_107 rfl rfl h
  · replace h := h.2 c3
    refine wp_iload_n dX11_room_32 rfl rfl ?_
    refine wp_iload_n dX11_room_33 rfl rfl ?_
    refine wp_iconst (v := (-1 : Int32)) dX11_room_34 (by decide) ?_
    refine wp_ixor dX11_room_35 ?_
    refine wp_iand dX11_room_36 ?_
    refine wp_if_ne (tgt := 91) dX11_room_37 (by decide) (fun c7 => ?_) (fun c7 => ?_)
    · replace h := h.2 c7
      refine wp_iinc (v := (x3 + 1)) (ls' := [some (.ref (ad G 71)), some (.int x1), some (.int x2), some (.int (x3 + 1)), none]) dX11_room_91 rfl rfl (by decide) rfl rfl ?_
      refine wp_goto (tgt := 24) dX11_room_94 (by decide) ?_
      exact h
    · replace h := h.1 c7
      refine wp_iload_n dX11_room_40 rfl rfl ?_
      refine wp_callSI (d1 := 1) (As := [.int x3]) (st := []) dX11_room_41 cm_X11_manyOf m_5_179 (by decide) rfl (Nat.le_of_ble_eq_true rfl) rfl h ?_
      intro r9 M8 h
      refine wp_aload_n dX11_room_44 rfl rfl ?_
      refine wp_getI dX11_room_45 rfl fb_11_19 m_4_174 ?_
      refine wp_icmp_gt (tgt := 91) dX11_room_48 (by decide) (fun c10 => ?_) (fun c10 => ?_)
      · replace h := h.1 c10
        refine wp_iinc (v := (x3 + 1)) (ls' := [some (.ref (ad G 71)), some (.int x1), some (.int x2), some (.int (x3 + 1)), none]) dX11_room_91 rfl rfl (by decide) rfl rfl ?_
        refine wp_goto (tgt := 24) dX11_room_94 (by decide) ?_
        exact h
      · replace h := h.2 c10
        refine wp_aload_n dX11_room_51 rfl rfl ?_
        refine wp_iload_n dX11_room_52 rfl rfl ?_
        refine wp_callVI (a := 71) (d1 := 1) (As := [.int x3]) (st := []) dX11_room_53 rfl cm_X11_worstOf m_6_9 (by decide) rfl (Nat.le_of_ble_eq_true rfl) rfl h ?_
        intro r12 M11 h
        refine wp_aload_n dX11_room_56 rfl rfl ?_
        refine wp_iload_n dX11_room_57 rfl rfl ?_
        refine wp_callVI (a := 71) (d1 := 1) (As := [.int x2]) (st := [.int r12]) dX11_room_58 rfl cm_X11_worstOf m_6_9 (by decide) rfl (Nat.le_of_ble_eq_true rfl) rfl h ?_
        intro r14 M13 h
        refine wp_isub dX11_room_61 ?_
        refine wp_istore (ls' := [some (.ref (ad G 71)), some (.int x1), some (.int x2), some (.int x3), some (.int (r12 - r14))]) dX11_room_62 (by decide) rfl rfl ?_
        refine wp_iload dX11_room_64 rfl ?_
        refine wp_if_gt (tgt := 85) dX11_room_66 (by decide) (fun c15 => ?_) (fun c15 => ?_)
        · replace h := h.1 c15
          refine wp_iload_n dX11_room_85 rfl rfl ?_
          refine wp_goto (tgt := 90) dX11_room_86 (by decide) ?_
          refine wp_istore_n (ls' := [some (.ref (ad G 71)), some (.int x1), some (.int x3), some (.int x3), some (.int (r12 - r14))]) dX11_room_90 rfl (by decide) rfl rfl ?_
          refine wp_iinc (v := (x3 + 1)) (ls' := [some (.ref (ad G 71)), some (.int x1), some (.int x3), some (.int (x3 + 1)), some (.int (r12 - r14))]) dX11_room_91 rfl rfl (by decide) rfl rfl ?_
          refine wp_goto (tgt := 24) dX11_room_94 (by decide) ?_
          exact wp_mask [true, true, true, true, false] rfl h
        · replace h := h.2 c15
          refine wp_iload dX11_room_69 rfl ?_
          refine wp_if_ne (tgt := 89) dX11_room_71 (by decide) (fun c16 => ?_) (fun c16 => ?_)
          · replace h := h.2 c16
            refine wp_iload_n dX11_room_89 rfl rfl ?_
            refine wp_istore_n (ls' := [some (.ref (ad G 71)), some (.int x1), some (.int x2), some (.int x3), some (.int (r12 - r14))]) dX11_room_90 rfl (by decide) rfl rfl ?_
            refine wp_iinc (v := (x3 + 1)) (ls' := [some (.ref (ad G 71)), some (.int x1), some (.int x2), some (.int (x3 + 1)), some (.int (r12 - r14))]) dX11_room_91 rfl rfl (by decide) rfl rfl ?_
            refine wp_goto (tgt := 24) dX11_room_94 (by decide) ?_
            exact wp_mask [true, true, true, true, false] rfl h
          · replace h := h.1 c16
            refine wp_iload_n dX11_room_74 rfl rfl ?_
            refine wp_callSI (d1 := 1) (As := [.int x3]) (st := []) dX11_room_75 cm_X11_manyOf m_5_179 (by decide) rfl (Nat.le_of_ble_eq_true rfl) rfl h ?_
            intro r18 M17 h
            refine wp_iload_n dX11_room_78 rfl rfl ?_
            refine wp_callSI (d1 := 1) (As := [.int x2]) (st := [.int r18]) dX11_room_79 cm_X11_manyOf m_5_179 (by decide) rfl (Nat.le_of_ble_eq_true rfl) rfl h ?_
            intro r20 M19 h
            refine wp_icmp_ge (tgt := 89) dX11_room_82 (by decide) (fun c21 => ?_) (fun c21 => ?_)
            · replace h := h.2 c21
              refine wp_iload_n dX11_room_89 rfl rfl ?_
              refine wp_istore_n (ls' := [some (.ref (ad G 71)), some (.int x1), some (.int x2), some (.int x3), some (.int (r12 - r14))]) dX11_room_90 rfl (by decide) rfl rfl ?_
              refine wp_iinc (v := (x3 + 1)) (ls' := [some (.ref (ad G 71)), some (.int x1), some (.int x2), some (.int (x3 + 1)), some (.int (r12 - r14))]) dX11_room_91 rfl rfl (by decide) rfl rfl ?_
              refine wp_goto (tgt := 24) dX11_room_94 (by decide) ?_
              exact wp_mask [true, true, true, true, false] rfl h
            · replace h := h.1 c21
              refine wp_iload_n dX11_room_85 rfl rfl ?_
              refine wp_goto (tgt := 90) dX11_room_86 (by decide) ?_
              refine wp_istore_n (ls' := [some (.ref (ad G 71)), some (.int x1), some (.int x3), some (.int x3), some (.int (r12 - r14))]) dX11_room_90 rfl (by decide) rfl rfl ?_
              refine wp_iinc (v := (x3 + 1)) (ls' := [some (.ref (ad G 71)), some (.int x1), some (.int x3), some (.int (x3 + 1)), some (.int (r12 - r14))]) dX11_room_91 rfl rfl (by decide) rfl rfl ?_
              refine wp_goto (tgt := 24) dX11_room_94 (by decide) ?_
              exact wp_mask [true, true, true, true, false] rfl h
abbrev C_X11_room (G : Glob)  (M : Mem) (Q : Option Value → Mem → Prop) : Prop := WpM G 6 Y_X11_room [.ref (ad G 71)] M Q
set_option maxRecDepth 20000 in
theorem v_X11_room {G : Glob} {M : Mem} {Q : Option Value → Mem → Prop}  (h : (((M.1 71 20) = 0 → Q (some (.int (-4 : Int32))) M) ∧ (¬ (M.1 71 20) = 0 → (WpM G 5 Y_X11_measure [.ref (ad G 71)] M (RV (fun M2 => (WpM G 1 Y_X11_setIn [.ref (ad G 71), .int 0] M2 (RI (fun r4 M3 => P_X11_room_24 G r4 0 1 M3 Q))))))))) : C_X11_room G  M Q := by
  refine wp_enter (ls0 := [some (.ref (ad G 71)), none, none, none, none]) (by decide +kernel) (Nat.le_of_ble_eq_true rfl) rfl ?_
  refine wp_aload_n dX11_room_0 rfl rfl ?_
  refine wp_getI dX11_room_1 rfl fb_11_20 m_4_175 ?_
  refine wp_if_ne (tgt := 10) dX11_room_4 (by decide) (fun c1 => ?_) (fun c1 => ?_)
  · replace h := h.2 c1
    refine wp_aload_n dX11_room_10 rfl rfl ?_
    refine wp_callVV (a := 71) (d1 := 5) (As := []) (st := []) dX11_room_11 rfl cm_X11_measure m_5_210 (by decide) rfl (Nat.le_of_ble_eq_true rfl) rfl h ?_
    intro M2 h
    refine wp_aload_n dX11_room_14 rfl rfl ?_
    refine wp_iconst (v := 0) dX11_room_15 (by decide) ?_
    refine wp_callVI (a := 71) (d1 := 1) (As := [.int 0]) (st := []) dX11_room_16 rfl cm_X11_setIn m_5_175 (by decide) rfl (Nat.le_of_ble_eq_true rfl) rfl h ?_
    intro r4 M3 h
    refine wp_istore_n (ls' := [some (.ref (ad G 71)), some (.int r4), none, none, none]) dX11_room_19 rfl (by decide) rfl rfl ?_
    refine wp_iconst (v := 0) dX11_room_20 (by decide) ?_
    refine wp_istore_n (ls' := [some (.ref (ad G 71)), some (.int r4), some (.int 0), none, none]) dX11_room_21 rfl (by decide) rfl rfl ?_
    refine wp_iconst (v := 1) dX11_room_22 (by decide) ?_
    refine wp_istore_n (ls' := [some (.ref (ad G 71)), some (.int r4), some (.int 0), some (.int 1), none]) dX11_room_23 rfl (by decide) rfl rfl ?_
    exact h
  · replace h := h.1 c1
    refine wp_bipush (v := (-4 : Int32)) dX11_room_7 (by decide) ?_
    exact wp_iret (ty := .int) dX11_room_9 rfl rfl h
abbrev C_X11_join (G : Glob) (x1 : Int32) (x2 : Int32) (M : Mem) (Q : Option Value → Mem → Prop) : Prop := WpM G 6 Y_X11_join [.ref (ad G 71), .int x1, .int x2] M Q
set_option maxRecDepth 20000 in
theorem v_X11_join {G : Glob} {x1 : Int32} {x2 : Int32} {M : Mem} {Q : Option Value → Mem → Prop}  (h : (WpM G 1 Y_X11_all [.ref (ad G 71)] M (RI (fun r2 M1 => (WpM G 1 Y_X11_in [.int x1, .int 0, .int r2] M1 (RI (fun r4 M3 => ((r4 = 0 → Q (some (.int (-1 : Int32))) M3) ∧ (¬ r4 = 0 → (WpM G 1 Y_X11_all [.ref (ad G 71)] M3 (RI (fun r7 M6 => (WpM G 1 Y_X11_in [.int x2, .int 0, .int r7] M6 (RI (fun r9 M8 => ((r9 = 0 → Q (some (.int (-1 : Int32))) M8) ∧ (¬ r9 = 0 → (WpM G 5 Y_X11_measure [.ref (ad G 71)] M8 (RV (fun M11 => (vp_in (x1 ||| x2) 256 ∧ (vp_in x1 256 ∧ (vp_in x2 256 ∧ Q (some (.int ((((M11.1 91 (x1 ||| x2).toNatClampNeg) - (M11.1 91 x1.toNatClampNeg)) - (M11.1 91 x2.toNatClampNeg)) + 200))) M11))))))))))))))))))))))) : C_X11_join G x1 x2 M Q := by
  refine wp_enter (ls0 := [some (.ref (ad G 71)), some (.int x1), some (.int x2)]) (by decide +kernel) (Nat.le_of_ble_eq_true rfl) rfl ?_
  refine wp_iload_n dX11_join_0 rfl rfl ?_
  refine wp_iconst (v := 0) dX11_join_1 (by decide) ?_
  refine wp_aload_n dX11_join_2 rfl rfl ?_
  refine wp_callVI (a := 71) (d1 := 1) (As := []) (st := [.int 0, .int x1]) dX11_join_3 rfl cm_X11_all m_5_206 (by decide) rfl (Nat.le_of_ble_eq_true rfl) rfl h ?_
  intro r2 M1 h
  refine wp_callSI (d1 := 1) (As := [.int x1, .int 0, .int r2]) (st := []) dX11_join_6 cm_X11_in m_5_32 (by decide) rfl (Nat.le_of_ble_eq_true rfl) rfl h ?_
  intro r4 M3 h
  refine wp_if_eq (tgt := 24) dX11_join_9 (by decide) (fun c5 => ?_) (fun c5 => ?_)
  · replace h := h.1 c5
    refine wp_iconst (v := (-1 : Int32)) dX11_join_24 (by decide) ?_
    exact wp_iret (ty := .int) dX11_join_25 rfl rfl h
  · replace h := h.2 c5
    refine wp_iload_n dX11_join_12 rfl rfl ?_
    refine wp_iconst (v := 0) dX11_join_13 (by decide) ?_
    refine wp_aload_n dX11_join_14 rfl rfl ?_
    refine wp_callVI (a := 71) (d1 := 1) (As := []) (st := [.int 0, .int x2]) dX11_join_15 rfl cm_X11_all m_5_206 (by decide) rfl (Nat.le_of_ble_eq_true rfl) rfl h ?_
    intro r7 M6 h
    refine wp_callSI (d1 := 1) (As := [.int x2, .int 0, .int r7]) (st := []) dX11_join_18 cm_X11_in m_5_32 (by decide) rfl (Nat.le_of_ble_eq_true rfl) rfl h ?_
    intro r9 M8 h
    refine wp_if_ne (tgt := 26) dX11_join_21 (by decide) (fun c10 => ?_) (fun c10 => ?_)
    · replace h := h.2 c10
      refine wp_aload_n dX11_join_26 rfl rfl ?_
      refine wp_callVV (a := 71) (d1 := 5) (As := []) (st := []) dX11_join_27 rfl cm_X11_measure m_5_210 (by decide) rfl (Nat.le_of_ble_eq_true rfl) rfl h ?_
      intro M11 h
      refine wp_aload_n dX11_join_30 rfl rfl ?_
      refine wp_getR (b := 91) dX11_join_31 rfl rfl fb_11_31 m_4_186 ?_
      refine wp_iload_n dX11_join_34 rfl rfl ?_
      refine wp_iload_n dX11_join_35 rfl rfl ?_
      refine wp_ior dX11_join_36 ?_
      obtain ⟨b12, h⟩ := h
      refine wp_iald (n := 256) dX11_join_37 rfl rfl b12 ?_
      refine wp_aload_n dX11_join_38 rfl rfl ?_
      refine wp_getR (b := 91) dX11_join_39 rfl rfl fb_11_31 m_4_186 ?_
      refine wp_iload_n dX11_join_42 rfl rfl ?_
      obtain ⟨b13, h⟩ := h
      refine wp_iald (n := 256) dX11_join_43 rfl rfl b13 ?_
      refine wp_isub dX11_join_44 ?_
      refine wp_aload_n dX11_join_45 rfl rfl ?_
      refine wp_getR (b := 91) dX11_join_46 rfl rfl fb_11_31 m_4_186 ?_
      refine wp_iload_n dX11_join_49 rfl rfl ?_
      obtain ⟨b14, h⟩ := h
      refine wp_iald (n := 256) dX11_join_50 rfl rfl b14 ?_
      refine wp_isub dX11_join_51 ?_
      refine wp_sipush (v := 200) dX11_join_52 (by decide) ?_
      refine wp_iadd dX11_join_55 ?_
      exact wp_iret (ty := .int) dX11_join_56 rfl rfl h
    · replace h := h.1 c10
      refine wp_iconst (v := (-1 : Int32)) dX11_join_24 (by decide) ?_
      exact wp_iret (ty := .int) dX11_join_25 rfl rfl h
abbrev P_X11_judge_55 (G : Glob) (x1 : Int32) (x2 : Int32) (x3 : Int32) (x4 : Int32) (M : Mem) (Q : Option Value → Mem → Prop) : Prop := Wp G 3 Y_X11_judge 55 [some (.ref (ad G 71)), some (.int x1), some (.int x2), some (.int x3), some (.int x4), none, none] [] M Q
set_option maxRecDepth 20000 in
theorem v_X11_judge_55 {G : Glob} {x1 : Int32} {x2 : Int32} {x3 : Int32} {x4 : Int32} {M : Mem} {Q : Option Value → Mem → Prop}  (h : (vp_in x2 6 ∧ ((x4 < (M.1 74 x2.toNatClampNeg) → (vp_in ((40 * x2) + x4) 240 ∧ (∀ y7 : Int32, y7 = (M.1 73 ((40 * x2) + x4).toNatClampNeg) → (vp_in (((40 * x2) + x4) + 1) 240 ∧ (∀ y9 : Int32, y9 = (M.1 73 (((40 * x2) + x4) + 1).toNatClampNeg) → ((x3 = 0 → P_X11_judge_55 G x1 x2 0 (x4 + 2) M Q) ∧ (¬ x3 = 0 → (WpM G 2 Y_X11_isGlove [.ref (ad G 71), .int y7] M (RI (fun r12 M11 => ((r12 = 0 → P_X11_judge_55 G x1 x2 0 (x4 + 2) M11 Q) ∧ (¬ r12 = 0 → ((y7 = x1 → P_X11_judge_55 G x1 x2 0 (x4 + 2) M11 Q) ∧ (¬ y7 = x1 → ((y9 < 0 → ((y9 = (-9 : Int32) → P_X11_judge_55 G x1 x2 1 (x4 + 2) M11 Q) ∧ (¬ y9 = (-9 : Int32) → P_X11_judge_55 G x1 x2 0 (x4 + 2) M11 Q))) ∧ (¬ y9 < 0 → P_X11_judge_55 G x1 x2 1 (x4 + 2) M11 Q)))))))))))))))) ∧ (¬ x4 < (M.1 74 x2.toNatClampNeg) → ((x3 = 0 → (WpM G 1 Y_X11_refuse [.ref (ad G 71), .int 3] M (RI (fun r5 M4 => Q (some (.int r5)) M4)))) ∧ (¬ x3 = 0 → Q (some (.int 0)) M)))))) : P_X11_judge_55 G x1 x2 x3 x4 M Q := by
  refine wp_iload dX11_judge_55 rfl ?_
  refine wp_aload_n dX11_judge_57 rfl rfl ?_
  refine wp_getR (b := 74) dX11_judge_58 rfl rfl fb_11_6 m_4_161 ?_
  refine wp_iload_n dX11_judge_61 rfl rfl ?_
  obtain ⟨b1, h⟩ := h
  refine wp_iald (n := 6) dX11_judge_62 rfl rfl b1 ?_
  refine wp_icmp_ge (tgt := 139) dX11_judge_63 (by decide) (fun c2 => ?_) (fun c2 => ?_)
  · replace h := h.2 c2
    refine wp_iload_n dX11_judge_139 rfl rfl ?_
    refine wp_if_eq (tgt := 147) dX11_judge_140 (by decide) (fun c3 => ?_) (fun c3 => ?_)
    · replace h := h.1 c3
      refine wp_aload_n dX11_judge_147 rfl rfl ?_
      refine wp_iconst (v := 3) dX11_judge_148 (by decide) ?_
      refine wp_callVI (a := 71) (d1 := 1) (As := [.int 3]) (st := []) dX11_judge_149 rfl cm_X11_refuse m_5_35 (by decide) rfl (Nat.le_of_ble_eq_true rfl) rfl h ?_
      intro r5 M4 h
      exact wp_iret (ty := .int) dX11_judge_152 rfl rfl h
    · replace h := h.2 c3
      refine wp_iconst (v := 0) dX11_judge_143 (by decide) ?_
      refine wp_goto (tgt := 152) dX11_judge_144 (by decide) ?_
      exact wp_iret (ty := .int) dX11_judge_152 rfl rfl h
  · replace h := h.1 c2
    refine wp_aload_n dX11_judge_66 rfl rfl ?_
    refine wp_getR (b := 73) dX11_judge_67 rfl rfl fb_11_5 m_4_160 ?_
    refine wp_bipush (v := 40) dX11_judge_70 (by decide) ?_
    refine wp_iload_n dX11_judge_72 rfl rfl ?_
    refine wp_imul dX11_judge_73 ?_
    refine wp_iload dX11_judge_74 rfl ?_
    refine wp_iadd dX11_judge_76 ?_
    obtain ⟨b6, h⟩ := h
    refine wp_iald (n := 240) dX11_judge_77 rfl rfl b6 ?_
    refine wp_topI (fun y7 hy7 => ?_)
    replace h := h y7 hy7
    refine wp_istore (ls' := [some (.ref (ad G 71)), some (.int x1), some (.int x2), some (.int x3), some (.int x4), some (.int y7), none]) dX11_judge_78 (by decide) rfl rfl ?_
    refine wp_aload_n dX11_judge_80 rfl rfl ?_
    refine wp_getR (b := 73) dX11_judge_81 rfl rfl fb_11_5 m_4_160 ?_
    refine wp_bipush (v := 40) dX11_judge_84 (by decide) ?_
    refine wp_iload_n dX11_judge_86 rfl rfl ?_
    refine wp_imul dX11_judge_87 ?_
    refine wp_iload dX11_judge_88 rfl ?_
    refine wp_iadd dX11_judge_90 ?_
    refine wp_iconst (v := 1) dX11_judge_91 (by decide) ?_
    refine wp_iadd dX11_judge_92 ?_
    obtain ⟨b8, h⟩ := h
    refine wp_iald (n := 240) dX11_judge_93 rfl rfl b8 ?_
    refine wp_topI (fun y9 hy9 => ?_)
    replace h := h y9 hy9
    refine wp_istore (ls' := [some (.ref (ad G 71)), some (.int x1), some (.int x2), some (.int x3), some (.int x4), some (.int y7), some (.int y9)]) dX11_judge_94 (by decide) rfl rfl ?_
    refine wp_iload_n dX11_judge_96 rfl rfl ?_
    refine wp_if_eq (tgt := 131) dX11_judge_97 (by decide) (fun c10 => ?_) (fun c10 => ?_)
    · replace h := h.1 c10
      refine wp_iconst (v := 0) dX11_judge_131 (by decide) ?_
      refine wp_istore_n (ls' := [some (.ref (ad G 71)), some (.int x1), some (.int x2), some (.int 0), some (.int x4), some (.int y7), some (.int y9)]) dX11_judge_132 rfl (by decide) rfl rfl ?_
      refine wp_iinc (v := (x4 + 2)) (ls' := [some (.ref (ad G 71)), some (.int x1), some (.int x2), some (.int 0), some (.int (x4 + 2)), some (.int y7), some (.int y9)]) dX11_judge_133 rfl rfl (by decide) rfl rfl ?_
      refine wp_goto (tgt := 55) dX11_judge_136 (by decide) ?_
      exact wp_mask [true, true, true, true, true, false, false] rfl h
    · replace h := h.2 c10
      refine wp_aload_n dX11_judge_100 rfl rfl ?_
      refine wp_iload dX11_judge_101 rfl ?_
      refine wp_callVI (a := 71) (d1 := 2) (As := [.int y7]) (st := []) dX11_judge_103 rfl cm_X11_isGlove m_5_121 (by decide) rfl (Nat.le_of_ble_eq_true rfl) rfl h ?_
      intro r12 M11 h
      refine wp_if_eq (tgt := 131) dX11_judge_106 (by decide) (fun c13 => ?_) (fun c13 => ?_)
      · replace h := h.1 c13
        refine wp_iconst (v := 0) dX11_judge_131 (by decide) ?_
        refine wp_istore_n (ls' := [some (.ref (ad G 71)), some (.int x1), some (.int x2), some (.int 0), some (.int x4), some (.int y7), some (.int y9)]) dX11_judge_132 rfl (by decide) rfl rfl ?_
        refine wp_iinc (v := (x4 + 2)) (ls' := [some (.ref (ad G 71)), some (.int x1), some (.int x2), some (.int 0), some (.int (x4 + 2)), some (.int y7), some (.int y9)]) dX11_judge_133 rfl rfl (by decide) rfl rfl ?_
        refine wp_goto (tgt := 55) dX11_judge_136 (by decide) ?_
        exact wp_mask [true, true, true, true, true, false, false] rfl h
      · replace h := h.2 c13
        refine wp_iload dX11_judge_109 rfl ?_
        refine wp_iload_n dX11_judge_111 rfl rfl ?_
        refine wp_icmp_eq (tgt := 131) dX11_judge_112 (by decide) (fun c14 => ?_) (fun c14 => ?_)
        · replace h := h.1 c14
          refine wp_iconst (v := 0) dX11_judge_131 (by decide) ?_
          refine wp_istore_n (ls' := [some (.ref (ad G 71)), some (.int x1), some (.int x2), some (.int 0), some (.int x4), some (.int y7), some (.int y9)]) dX11_judge_132 rfl (by decide) rfl rfl ?_
          refine wp_iinc (v := (x4 + 2)) (ls' := [some (.ref (ad G 71)), some (.int x1), some (.int x2), some (.int 0), some (.int (x4 + 2)), some (.int y7), some (.int y9)]) dX11_judge_133 rfl rfl (by decide) rfl rfl ?_
          refine wp_goto (tgt := 55) dX11_judge_136 (by decide) ?_
          exact wp_mask [true, true, true, true, true, false, false] rfl h
        · replace h := h.2 c14
          refine wp_iload dX11_judge_115 rfl ?_
          refine wp_if_ge (tgt := 127) dX11_judge_117 (by decide) (fun c15 => ?_) (fun c15 => ?_)
          · replace h := h.2 c15
            refine wp_iconst (v := 1) dX11_judge_127 (by decide) ?_
            refine wp_goto (tgt := 132) dX11_judge_128 (by decide) ?_
            refine wp_istore_n (ls' := [some (.ref (ad G 71)), some (.int x1), some (.int x2), some (.int 1), some (.int x4), some (.int y7), some (.int y9)]) dX11_judge_132 rfl (by decide) rfl rfl ?_
            refine wp_iinc (v := (x4 + 2)) (ls' := [some (.ref (ad G 71)), some (.int x1), some (.int x2), some (.int 1), some (.int (x4 + 2)), some (.int y7), some (.int y9)]) dX11_judge_133 rfl rfl (by decide) rfl rfl ?_
            refine wp_goto (tgt := 55) dX11_judge_136 (by decide) ?_
            exact wp_mask [true, true, true, true, true, false, false] rfl h
          · replace h := h.1 c15
            refine wp_iload dX11_judge_120 rfl ?_
            refine wp_bipush (v := (-9 : Int32)) dX11_judge_122 (by decide) ?_
            refine wp_icmp_ne (tgt := 131) dX11_judge_124 (by decide) (fun c16 => ?_) (fun c16 => ?_)
            · replace h := h.2 c16
              refine wp_iconst (v := 0) dX11_judge_131 (by decide) ?_
              refine wp_istore_n (ls' := [some (.ref (ad G 71)), some (.int x1), some (.int x2), some (.int 0), some (.int x4), some (.int y7), some (.int y9)]) dX11_judge_132 rfl (by decide) rfl rfl ?_
              refine wp_iinc (v := (x4 + 2)) (ls' := [some (.ref (ad G 71)), some (.int x1), some (.int x2), some (.int 0), some (.int (x4 + 2)), some (.int y7), some (.int y9)]) dX11_judge_133 rfl rfl (by decide) rfl rfl ?_
              refine wp_goto (tgt := 55) dX11_judge_136 (by decide) ?_
              exact wp_mask [true, true, true, true, true, false, false] rfl h
            · replace h := h.1 c16
              refine wp_iconst (v := 1) dX11_judge_127 (by decide) ?_
              refine wp_goto (tgt := 132) dX11_judge_128 (by decide) ?_
              refine wp_istore_n (ls' := [some (.ref (ad G 71)), some (.int x1), some (.int x2), some (.int 1), some (.int x4), some (.int y7), some (.int y9)]) dX11_judge_132 rfl (by decide) rfl rfl ?_
              refine wp_iinc (v := (x4 + 2)) (ls' := [some (.ref (ad G 71)), some (.int x1), some (.int x2), some (.int 1), some (.int (x4 + 2)), some (.int y7), some (.int y9)]) dX11_judge_133 rfl rfl (by decide) rfl rfl ?_
              refine wp_goto (tgt := 55) dX11_judge_136 (by decide) ?_
              exact wp_mask [true, true, true, true, true, false, false] rfl h
abbrev C_X11_judge (G : Glob) (x1 : Int32) (x2 : Int32) (M : Mem) (Q : Option Value → Mem → Prop) : Prop := WpM G 3 Y_X11_judge [.ref (ad G 71), .int x1, .int x2] M Q
set_option maxRecDepth 20000 in
theorem v_X11_judge {G : Glob} {x1 : Int32} {x2 : Int32} {M : Mem} {Q : Option Value → Mem → Prop}  (h : (WpM G 2 Y_X11_isGlove [.ref (ad G 71), .int x1] M (RI (fun r2 M1 => ((r2 = 0 → Q (some (.int (-1 : Int32))) M1) ∧ (¬ r2 = 0 → (WpM G 2 Y_X11_isRow [.int x2] M1 (RI (fun r5 M4 => ((r5 = 0 → Q (some (.int (-1 : Int32))) M4) ∧ (¬ r5 = 0 → (vp_in x2 6 ∧ (((M4.1 74 x2.toNatClampNeg) < 0 → (WpM G 1 Y_X11_refuse [.ref (ad G 71), .int 1] M4 (RI (fun r14 M13 => Q (some (.int r14)) M13)))) ∧ (¬ (M4.1 74 x2.toNatClampNeg) < 0 → (vp_in x2 6 ∧ ((((M4.1 74 x2.toNatClampNeg) - (M4.1 74 x2.toNatClampNeg) / 2 * 2) = 1 → (WpM G 1 Y_X11_refuse [.ref (ad G 71), .int 5] M4 (RI (fun r12 M11 => Q (some (.int r12)) M11)))) ∧ (¬ ((M4.1 74 x2.toNatClampNeg) - (M4.1 74 x2.toNatClampNeg) / 2 * 2) = 1 → P_X11_judge_55 G x1 x2 1 0 M4 Q))))))))))))))))) : C_X11_judge G x1 x2 M Q := by
  refine wp_enter (ls0 := [some (.ref (ad G 71)), some (.int x1), some (.int x2), none, none, none, none]) (by decide +kernel) (Nat.le_of_ble_eq_true rfl) rfl ?_
  refine wp_aload_n dX11_judge_0 rfl rfl ?_
  refine wp_iload_n dX11_judge_1 rfl rfl ?_
  refine wp_callVI (a := 71) (d1 := 2) (As := [.int x1]) (st := []) dX11_judge_2 rfl cm_X11_isGlove m_5_121 (by decide) rfl (Nat.le_of_ble_eq_true rfl) rfl h ?_
  intro r2 M1 h
  refine wp_if_eq (tgt := 15) dX11_judge_5 (by decide) (fun c3 => ?_) (fun c3 => ?_)
  · replace h := h.1 c3
    refine wp_iconst (v := (-1 : Int32)) dX11_judge_15 (by decide) ?_
    exact wp_iret (ty := .int) dX11_judge_16 rfl rfl h
  · replace h := h.2 c3
    refine wp_iload_n dX11_judge_8 rfl rfl ?_
    refine wp_callSI (d1 := 2) (As := [.int x2]) (st := []) dX11_judge_9 cm_X11_isRow m_5_29 (by decide) rfl (Nat.le_of_ble_eq_true rfl) rfl h ?_
    intro r5 M4 h
    refine wp_if_ne (tgt := 17) dX11_judge_12 (by decide) (fun c6 => ?_) (fun c6 => ?_)
    · replace h := h.2 c6
      refine wp_aload_n dX11_judge_17 rfl rfl ?_
      refine wp_getR (b := 74) dX11_judge_18 rfl rfl fb_11_6 m_4_161 ?_
      refine wp_iload_n dX11_judge_21 rfl rfl ?_
      obtain ⟨b7, h⟩ := h
      refine wp_iald (n := 6) dX11_judge_22 rfl rfl b7 ?_
      refine wp_if_ge (tgt := 32) dX11_judge_23 (by decide) (fun c8 => ?_) (fun c8 => ?_)
      · replace h := h.2 c8
        refine wp_aload_n dX11_judge_32 rfl rfl ?_
        refine wp_getR (b := 74) dX11_judge_33 rfl rfl fb_11_6 m_4_161 ?_
        refine wp_iload_n dX11_judge_36 rfl rfl ?_
        obtain ⟨b9, h⟩ := h
        refine wp_iald (n := 6) dX11_judge_37 rfl rfl b9 ?_
        refine wp_iconst (v := 2) dX11_judge_38 (by decide) ?_
        refine wp_irem dX11_judge_39 (by decide) ?_
        refine wp_iconst (v := 1) dX11_judge_40 (by decide) ?_
        refine wp_icmp_ne (tgt := 50) dX11_judge_41 (by decide) (fun c10 => ?_) (fun c10 => ?_)
        · replace h := h.2 c10
          refine wp_iconst (v := 1) dX11_judge_50 (by decide) ?_
          refine wp_istore_n (ls' := [some (.ref (ad G 71)), some (.int x1), some (.int x2), some (.int 1), none, none, none]) dX11_judge_51 rfl (by decide) rfl rfl ?_
          refine wp_iconst (v := 0) dX11_judge_52 (by decide) ?_
          refine wp_istore (ls' := [some (.ref (ad G 71)), some (.int x1), some (.int x2), some (.int 1), some (.int 0), none, none]) dX11_judge_53 (by decide) rfl rfl ?_
          exact h
        · replace h := h.1 c10
          refine wp_aload_n dX11_judge_44 rfl rfl ?_
          refine wp_iconst (v := 5) dX11_judge_45 (by decide) ?_
          refine wp_callVI (a := 71) (d1 := 1) (As := [.int 5]) (st := []) dX11_judge_46 rfl cm_X11_refuse m_5_35 (by decide) rfl (Nat.le_of_ble_eq_true rfl) rfl h ?_
          intro r12 M11 h
          exact wp_iret (ty := .int) dX11_judge_49 rfl rfl h
      · replace h := h.1 c8
        refine wp_aload_n dX11_judge_26 rfl rfl ?_
        refine wp_iconst (v := 1) dX11_judge_27 (by decide) ?_
        refine wp_callVI (a := 71) (d1 := 1) (As := [.int 1]) (st := []) dX11_judge_28 rfl cm_X11_refuse m_5_35 (by decide) rfl (Nat.le_of_ble_eq_true rfl) rfl h ?_
        intro r14 M13 h
        exact wp_iret (ty := .int) dX11_judge_31 rfl rfl h
    · replace h := h.1 c6
      refine wp_iconst (v := (-1 : Int32)) dX11_judge_15 (by decide) ?_
      exact wp_iret (ty := .int) dX11_judge_16 rfl rfl h
abbrev P_X11_isSo_6 (G : Glob) (x1 : Int32) (x2 : Int32) (x3 : Int32) (x4 : Int32) (x5 : Int32) (x6 : Int32) (x7 : Int32) (M : Mem) (Q : Option Value → Mem → Prop) : Prop := Wp G 4 Y_X11_isSo 6 [some (.ref (ad G 71)), some (.int x1), some (.int x2), some (.int x3), some (.int x4), some (.int x5), some (.int x6), some (.int x7)] [] M Q
set_option maxRecDepth 20000 in
theorem v_X11_isSo_6 {G : Glob} {x1 : Int32} {x2 : Int32} {x3 : Int32} {x4 : Int32} {x5 : Int32} {x6 : Int32} {x7 : Int32} {M : Mem} {Q : Option Value → Mem → Prop}  (h : (vp_in x2 6 ∧ ((x7 < (M.1 74 x2.toNatClampNeg) → ((x6 = 0 → P_X11_isSo_6 G x1 x2 x3 x4 x5 0 (x7 + 2) M Q) ∧ (¬ x6 = 0 → (vp_in ((40 * x2) + x7) 240 ∧ (WpM G 3 Y_X11_pairAs [.ref (ad G 71), .int x1, .int x3, .int x4, .int x5, .int (M.1 73 ((40 * x2) + x7).toNatClampNeg)] M (RI (fun r6 M5 => (vp_in (((40 * x2) + x7) + 1) 240 ∧ ((r6 = (M5.1 73 (((40 * x2) + x7) + 1).toNatClampNeg) → P_X11_isSo_6 G x1 x2 x3 x4 x5 1 (x7 + 2) M5 Q) ∧ (¬ r6 = (M5.1 73 (((40 * x2) + x7) + 1).toNatClampNeg) → P_X11_isSo_6 G x1 x2 x3 x4 x5 0 (x7 + 2) M5 Q)))))))))) ∧ (¬ x7 < (M.1 74 x2.toNatClampNeg) → (narrow .boolean (.int x6) = .int x6 ∧ Q (some (.int x6)) M))))) : P_X11_isSo_6 G x1 x2 x3 x4 x5 x6 x7 M Q := by
  refine wp_iload dX11_isSo_6 rfl ?_
  refine wp_aload_n dX11_isSo_8 rfl rfl ?_
  refine wp_getR (b := 74) dX11_isSo_9 rfl rfl fb_11_6 m_4_161 ?_
  refine wp_iload_n dX11_isSo_12 rfl rfl ?_
  obtain ⟨b1, h⟩ := h
  refine wp_iald (n := 6) dX11_isSo_13 rfl rfl b1 ?_
  refine wp_icmp_ge (tgt := 74) dX11_isSo_14 (by decide) (fun c2 => ?_) (fun c2 => ?_)
  · replace h := h.2 c2
    refine wp_iload dX11_isSo_74 rfl ?_
    exact wp_iret (ty := .boolean) dX11_isSo_76 rfl h.1 h.2
  · replace h := h.1 c2
    refine wp_iload dX11_isSo_17 rfl ?_
    refine wp_if_eq (tgt := 65) dX11_isSo_19 (by decide) (fun c3 => ?_) (fun c3 => ?_)
    · replace h := h.1 c3
      refine wp_iconst (v := 0) dX11_isSo_65 (by decide) ?_
      refine wp_istore (ls' := [some (.ref (ad G 71)), some (.int x1), some (.int x2), some (.int x3), some (.int x4), some (.int x5), some (.int 0), some (.int x7)]) dX11_isSo_66 (by decide) rfl rfl ?_
      refine wp_iinc (v := (x7 + 2)) (ls' := [some (.ref (ad G 71)), some (.int x1), some (.int x2), some (.int x3), some (.int x4), some (.int x5), some (.int 0), some (.int (x7 + 2))]) dX11_isSo_68 rfl rfl (by decide) rfl rfl ?_
      refine wp_goto (tgt := 6) dX11_isSo_71 (by decide) ?_
      exact h
    · replace h := h.2 c3
      refine wp_aload_n dX11_isSo_22 rfl rfl ?_
      refine wp_iload_n dX11_isSo_23 rfl rfl ?_
      refine wp_iload_n dX11_isSo_24 rfl rfl ?_
      refine wp_iload dX11_isSo_25 rfl ?_
      refine wp_iload dX11_isSo_27 rfl ?_
      refine wp_aload_n dX11_isSo_29 rfl rfl ?_
      refine wp_getR (b := 73) dX11_isSo_30 rfl rfl fb_11_5 m_4_160 ?_
      refine wp_bipush (v := 40) dX11_isSo_33 (by decide) ?_
      refine wp_iload_n dX11_isSo_35 rfl rfl ?_
      refine wp_imul dX11_isSo_36 ?_
      refine wp_iload dX11_isSo_37 rfl ?_
      refine wp_iadd dX11_isSo_39 ?_
      obtain ⟨b4, h⟩ := h
      refine wp_iald (n := 240) dX11_isSo_40 rfl rfl b4 ?_
      refine wp_callVI (a := 71) (d1 := 3) (As := [.int x1, .int x3, .int x4, .int x5, .int (M.1 73 ((40 * x2) + x7).toNatClampNeg)]) (st := []) dX11_isSo_41 rfl cm_X11_pairAs m_5_144 (by decide) rfl (Nat.le_of_ble_eq_true rfl) rfl h ?_
      intro r6 M5 h
      refine wp_aload_n dX11_isSo_44 rfl rfl ?_
      refine wp_getR (b := 73) dX11_isSo_45 rfl rfl fb_11_5 m_4_160 ?_
      refine wp_bipush (v := 40) dX11_isSo_48 (by decide) ?_
      refine wp_iload_n dX11_isSo_50 rfl rfl ?_
      refine wp_imul dX11_isSo_51 ?_
      refine wp_iload dX11_isSo_52 rfl ?_
      refine wp_iadd dX11_isSo_54 ?_
      refine wp_iconst (v := 1) dX11_isSo_55 (by decide) ?_
      refine wp_iadd dX11_isSo_56 ?_
      obtain ⟨b7, h⟩ := h
      refine wp_iald (n := 240) dX11_isSo_57 rfl rfl b7 ?_
      refine wp_icmp_ne (tgt := 65) dX11_isSo_58 (by decide) (fun c8 => ?_) (fun c8 => ?_)
      · replace h := h.2 c8
        refine wp_iconst (v := 0) dX11_isSo_65 (by decide) ?_
        refine wp_istore (ls' := [some (.ref (ad G 71)), some (.int x1), some (.int x2), some (.int x3), some (.int x4), some (.int x5), some (.int 0), some (.int x7)]) dX11_isSo_66 (by decide) rfl rfl ?_
        refine wp_iinc (v := (x7 + 2)) (ls' := [some (.ref (ad G 71)), some (.int x1), some (.int x2), some (.int x3), some (.int x4), some (.int x5), some (.int 0), some (.int (x7 + 2))]) dX11_isSo_68 rfl rfl (by decide) rfl rfl ?_
        refine wp_goto (tgt := 6) dX11_isSo_71 (by decide) ?_
        exact h
      · replace h := h.1 c8
        refine wp_iconst (v := 1) dX11_isSo_61 (by decide) ?_
        refine wp_goto (tgt := 66) dX11_isSo_62 (by decide) ?_
        refine wp_istore (ls' := [some (.ref (ad G 71)), some (.int x1), some (.int x2), some (.int x3), some (.int x4), some (.int x5), some (.int 1), some (.int x7)]) dX11_isSo_66 (by decide) rfl rfl ?_
        refine wp_iinc (v := (x7 + 2)) (ls' := [some (.ref (ad G 71)), some (.int x1), some (.int x2), some (.int x3), some (.int x4), some (.int x5), some (.int 1), some (.int (x7 + 2))]) dX11_isSo_68 rfl rfl (by decide) rfl rfl ?_
        refine wp_goto (tgt := 6) dX11_isSo_71 (by decide) ?_
        exact h
abbrev C_X11_isSo (G : Glob) (x1 : Int32) (x2 : Int32) (x3 : Int32) (x4 : Int32) (x5 : Int32) (M : Mem) (Q : Option Value → Mem → Prop) : Prop := WpM G 4 Y_X11_isSo [.ref (ad G 71), .int x1, .int x2, .int x3, .int x4, .int x5] M Q
set_option maxRecDepth 20000 in
theorem v_X11_isSo {G : Glob} {x1 : Int32} {x2 : Int32} {x3 : Int32} {x4 : Int32} {x5 : Int32} {M : Mem} {Q : Option Value → Mem → Prop}  (h : P_X11_isSo_6 G x1 x2 x3 x4 x5 1 0 M Q) : C_X11_isSo G x1 x2 x3 x4 x5 M Q := by
  refine wp_enter (ls0 := [some (.ref (ad G 71)), some (.int x1), some (.int x2), some (.int x3), some (.int x4), some (.int x5), none, none]) (by decide +kernel) (Nat.le_of_ble_eq_true rfl) rfl ?_
  refine wp_iconst (v := 1) dX11_isSo_0 (by decide) ?_
  refine wp_istore (ls' := [some (.ref (ad G 71)), some (.int x1), some (.int x2), some (.int x3), some (.int x4), some (.int x5), some (.int 1), none]) dX11_isSo_1 (by decide) rfl rfl ?_
  refine wp_iconst (v := 0) dX11_isSo_3 (by decide) ?_
  refine wp_istore (ls' := [some (.ref (ad G 71)), some (.int x1), some (.int x2), some (.int x3), some (.int x4), some (.int x5), some (.int 1), some (.int 0)]) dX11_isSo_4 (by decide) rfl rfl ?_
  exact h
abbrev P_X11_sorts_19 (G : Glob) (x1 : Int32) (x2 : Int32) (x4 : Int32) (x5 : Int32) (M : Mem) (Q : Option Value → Mem → Prop) : Prop := Wp G 5 Y_X11_sorts 19 [some (.ref (ad G 71)), some (.int x1), some (.int x2), none, some (.int x4), some (.int x5)] [] M Q
set_option maxRecDepth 20000 in
theorem v_X11_sorts_19 {G : Glob} {x1 : Int32} {x2 : Int32} {x4 : Int32} {x5 : Int32} {M : Mem} {Q : Option Value → Mem → Prop}  (h : (((9 : Int32) < x5 → Q (some (.int x4)) M) ∧ (¬ (9 : Int32) < x5 → (vp_in x1 8 ∧ (vp_in x1 8 ∧ (WpM G 4 Y_X11_isSo [.ref (ad G 71), .int x1, .int x2, .int (M.1 82 x1.toNatClampNeg), .int x5, .int (M.1 84 x1.toNatClampNeg)] M (RI (fun r5 M4 => ((r5 = 0 → P_X11_sorts_19 G x1 x2 (x4 ||| 0) (x5 + 1) M4 Q) ∧ (¬ r5 = 0 → (∀ y7 : Int32, y7 = (x4 ||| (1 <<< (x5 &&& 31))) → P_X11_sorts_19 G x1 x2 y7 (x5 + 1) M4 Q))))))))))) : P_X11_sorts_19 G x1 x2 x4 x5 M Q := by
  refine wp_iload dX11_sorts_19 rfl ?_
  refine wp_bipush (v := 9) dX11_sorts_21 (by decide) ?_
  refine wp_icmp_gt (tgt := 68) dX11_sorts_23 (by decide) (fun c1 => ?_) (fun c1 => ?_)
  · replace h := h.1 c1
    refine wp_iload dX11_sorts_68 rfl ?_
    exact wp_iret (ty := .int) dX11_sorts_70 rfl rfl h
  · replace h := h.2 c1
    refine wp_iload dX11_sorts_26 rfl ?_
    refine wp_aload_n dX11_sorts_28 rfl rfl ?_
    refine wp_iload_n dX11_sorts_29 rfl rfl ?_
    refine wp_iload_n dX11_sorts_30 rfl rfl ?_
    refine wp_aload_n dX11_sorts_31 rfl rfl ?_
    refine wp_getR (b := 82) dX11_sorts_32 rfl rfl fb_11_21 m_4_176 ?_
    refine wp_iload_n dX11_sorts_35 rfl rfl ?_
    obtain ⟨b2, h⟩ := h
    refine wp_iald (n := 8) dX11_sorts_36 rfl rfl b2 ?_
    refine wp_iload dX11_sorts_37 rfl ?_
    refine wp_aload_n dX11_sorts_39 rfl rfl ?_
    refine wp_getR (b := 84) dX11_sorts_40 rfl rfl fb_11_23 m_4_178 ?_
    refine wp_iload_n dX11_sorts_43 rfl rfl ?_
    obtain ⟨b3, h⟩ := h
    refine wp_iald (n := 8) dX11_sorts_44 rfl rfl b3 ?_
    refine wp_callVI (a := 71) (d1 := 4) (As := [.int x1, .int x2, .int (M.1 82 x1.toNatClampNeg), .int x5, .int (M.1 84 x1.toNatClampNeg)]) (st := [.int x4]) dX11_sorts_45 rfl cm_X11_isSo m_6_25 (by decide) rfl (Nat.le_of_ble_eq_true rfl) rfl h ?_
    intro r5 M4 h
    refine wp_if_eq (tgt := 58) dX11_sorts_48 (by decide) (fun c6 => ?_) (fun c6 => ?_)
    · replace h := h.1 c6
      refine wp_iconst (v := 0) dX11_sorts_58 (by decide) ?_
      refine wp_ior dX11_sorts_59 ?_
      refine wp_istore (ls' := [some (.ref (ad G 71)), some (.int x1), some (.int x2), none, some (.int (x4 ||| 0)), some (.int x5)]) dX11_sorts_60 (by decide) rfl rfl ?_
      refine wp_iinc (v := (x5 + 1)) (ls' := [some (.ref (ad G 71)), some (.int x1), some (.int x2), none, some (.int (x4 ||| 0)), some (.int (x5 + 1))]) dX11_sorts_62 rfl rfl (by decide) rfl rfl ?_
      refine wp_goto (tgt := 19) dX11_sorts_65 (by decide) ?_
      exact h
    · replace h := h.2 c6
      refine wp_iconst (v := 1) dX11_sorts_51 (by decide) ?_
      refine wp_iload dX11_sorts_52 rfl ?_
      refine wp_ishl dX11_sorts_54 ?_
      refine wp_goto (tgt := 59) dX11_sorts_55 (by decide) ?_
      refine wp_ior dX11_sorts_59 ?_
      refine wp_topI (fun y7 hy7 => ?_)
      replace h := h y7 hy7
      refine wp_istore (ls' := [some (.ref (ad G 71)), some (.int x1), some (.int x2), none, some (.int y7), some (.int x5)]) dX11_sorts_60 (by decide) rfl rfl ?_
      refine wp_iinc (v := (x5 + 1)) (ls' := [some (.ref (ad G 71)), some (.int x1), some (.int x2), none, some (.int y7), some (.int (x5 + 1))]) dX11_sorts_62 rfl rfl (by decide) rfl rfl ?_
      refine wp_goto (tgt := 19) dX11_sorts_65 (by decide) ?_
      exact h
abbrev C_X11_sorts (G : Glob) (x1 : Int32) (x2 : Int32) (M : Mem) (Q : Option Value → Mem → Prop) : Prop := WpM G 5 Y_X11_sorts [.ref (ad G 71), .int x1, .int x2] M Q
set_option maxRecDepth 20000 in
theorem v_X11_sorts {G : Glob} {x1 : Int32} {x2 : Int32} {M : Mem} {Q : Option Value → Mem → Prop}  (h : (WpM G 3 Y_X11_judge [.ref (ad G 71), .int x1, .int x2] M (RI (fun r2 M1 => ((r2 < 0 → Q (some (.int r2)) M1) ∧ (¬ r2 < 0 → P_X11_sorts_19 G x1 x2 0 0 M1 Q)))))) : C_X11_sorts G x1 x2 M Q := by
  refine wp_enter (ls0 := [some (.ref (ad G 71)), some (.int x1), some (.int x2), none, none, none]) (by decide +kernel) (Nat.le_of_ble_eq_true rfl) rfl ?_
  refine wp_aload_n dX11_sorts_0 rfl rfl ?_
  refine wp_iload_n dX11_sorts_1 rfl rfl ?_
  refine wp_iload_n dX11_sorts_2 rfl rfl ?_
  refine wp_callVI (a := 71) (d1 := 3) (As := [.int x1, .int x2]) (st := []) dX11_sorts_3 rfl cm_X11_judge m_6_21 (by decide) rfl (Nat.le_of_ble_eq_true rfl) rfl h ?_
  intro r2 M1 h
  refine wp_istore_n (ls' := [some (.ref (ad G 71)), some (.int x1), some (.int x2), some (.int r2), none, none]) dX11_sorts_6 rfl (by decide) rfl rfl ?_
  refine wp_iload_n dX11_sorts_7 rfl rfl ?_
  refine wp_if_ge (tgt := 13) dX11_sorts_8 (by decide) (fun c3 => ?_) (fun c3 => ?_)
  · replace h := h.2 c3
    refine wp_iconst (v := 0) dX11_sorts_13 (by decide) ?_
    refine wp_istore (ls' := [some (.ref (ad G 71)), some (.int x1), some (.int x2), some (.int r2), some (.int 0), none]) dX11_sorts_14 (by decide) rfl rfl ?_
    refine wp_iconst (v := 0) dX11_sorts_16 (by decide) ?_
    refine wp_istore (ls' := [some (.ref (ad G 71)), some (.int x1), some (.int x2), some (.int r2), some (.int 0), some (.int 0)]) dX11_sorts_17 (by decide) rfl rfl ?_
    exact wp_mask [true, true, true, false, true, true] rfl h
  · replace h := h.1 c3
    refine wp_iload_n dX11_sorts_11 rfl rfl ?_
    exact wp_iret (ty := .int) dX11_sorts_12 rfl rfl h
abbrev P_X11_hands_19 (G : Glob) (x1 : Int32) (x2 : Int32) (x4 : Int32) (x5 : Int32) (M : Mem) (Q : Option Value → Mem → Prop) : Prop := Wp G 5 Y_X11_hands 19 [some (.ref (ad G 71)), some (.int x1), some (.int x2), none, some (.int x4), some (.int x5)] [] M Q
set_option maxRecDepth 20000 in
theorem v_X11_hands_19 {G : Glob} {x1 : Int32} {x2 : Int32} {x4 : Int32} {x5 : Int32} {M : Mem} {Q : Option Value → Mem → Prop}  (h : (((1 : Int32) < x5 → Q (some (.int x4)) M) ∧ (¬ (1 : Int32) < x5 → (vp_in x1 8 ∧ (vp_in x1 8 ∧ (WpM G 4 Y_X11_isSo [.ref (ad G 71), .int x1, .int x2, .int (M.1 82 x1.toNatClampNeg), .int (M.1 83 x1.toNatClampNeg), .int x5] M (RI (fun r5 M4 => ((r5 = 0 → P_X11_hands_19 G x1 x2 (x4 ||| 0) (x5 + 1) M4 Q) ∧ (¬ r5 = 0 → (∀ y7 : Int32, y7 = (x4 ||| (1 <<< (x5 &&& 31))) → P_X11_hands_19 G x1 x2 y7 (x5 + 1) M4 Q))))))))))) : P_X11_hands_19 G x1 x2 x4 x5 M Q := by
  refine wp_iload dX11_hands_19 rfl ?_
  refine wp_iconst (v := 1) dX11_hands_21 (by decide) ?_
  refine wp_icmp_gt (tgt := 67) dX11_hands_22 (by decide) (fun c1 => ?_) (fun c1 => ?_)
  · replace h := h.1 c1
    refine wp_iload dX11_hands_67 rfl ?_
    exact wp_iret (ty := .int) dX11_hands_69 rfl rfl h
  · replace h := h.2 c1
    refine wp_iload dX11_hands_25 rfl ?_
    refine wp_aload_n dX11_hands_27 rfl rfl ?_
    refine wp_iload_n dX11_hands_28 rfl rfl ?_
    refine wp_iload_n dX11_hands_29 rfl rfl ?_
    refine wp_aload_n dX11_hands_30 rfl rfl ?_
    refine wp_getR (b := 82) dX11_hands_31 rfl rfl fb_11_21 m_4_176 ?_
    refine wp_iload_n dX11_hands_34 rfl rfl ?_
    obtain ⟨b2, h⟩ := h
    refine wp_iald (n := 8) dX11_hands_35 rfl rfl b2 ?_
    refine wp_aload_n dX11_hands_36 rfl rfl ?_
    refine wp_getR (b := 83) dX11_hands_37 rfl rfl fb_11_22 m_4_177 ?_
    refine wp_iload_n dX11_hands_40 rfl rfl ?_
    obtain ⟨b3, h⟩ := h
    refine wp_iald (n := 8) dX11_hands_41 rfl rfl b3 ?_
    refine wp_iload dX11_hands_42 rfl ?_
    refine wp_callVI (a := 71) (d1 := 4) (As := [.int x1, .int x2, .int (M.1 82 x1.toNatClampNeg), .int (M.1 83 x1.toNatClampNeg), .int x5]) (st := [.int x4]) dX11_hands_44 rfl cm_X11_isSo m_6_25 (by decide) rfl (Nat.le_of_ble_eq_true rfl) rfl h ?_
    intro r5 M4 h
    refine wp_if_eq (tgt := 57) dX11_hands_47 (by decide) (fun c6 => ?_) (fun c6 => ?_)
    · replace h := h.1 c6
      refine wp_iconst (v := 0) dX11_hands_57 (by decide) ?_
      refine wp_ior dX11_hands_58 ?_
      refine wp_istore (ls' := [some (.ref (ad G 71)), some (.int x1), some (.int x2), none, some (.int (x4 ||| 0)), some (.int x5)]) dX11_hands_59 (by decide) rfl rfl ?_
      refine wp_iinc (v := (x5 + 1)) (ls' := [some (.ref (ad G 71)), some (.int x1), some (.int x2), none, some (.int (x4 ||| 0)), some (.int (x5 + 1))]) dX11_hands_61 rfl rfl (by decide) rfl rfl ?_
      refine wp_goto (tgt := 19) dX11_hands_64 (by decide) ?_
      exact h
    · replace h := h.2 c6
      refine wp_iconst (v := 1) dX11_hands_50 (by decide) ?_
      refine wp_iload dX11_hands_51 rfl ?_
      refine wp_ishl dX11_hands_53 ?_
      refine wp_goto (tgt := 58) dX11_hands_54 (by decide) ?_
      refine wp_ior dX11_hands_58 ?_
      refine wp_topI (fun y7 hy7 => ?_)
      replace h := h y7 hy7
      refine wp_istore (ls' := [some (.ref (ad G 71)), some (.int x1), some (.int x2), none, some (.int y7), some (.int x5)]) dX11_hands_59 (by decide) rfl rfl ?_
      refine wp_iinc (v := (x5 + 1)) (ls' := [some (.ref (ad G 71)), some (.int x1), some (.int x2), none, some (.int y7), some (.int (x5 + 1))]) dX11_hands_61 rfl rfl (by decide) rfl rfl ?_
      refine wp_goto (tgt := 19) dX11_hands_64 (by decide) ?_
      exact h
abbrev C_X11_hands (G : Glob) (x1 : Int32) (x2 : Int32) (M : Mem) (Q : Option Value → Mem → Prop) : Prop := WpM G 5 Y_X11_hands [.ref (ad G 71), .int x1, .int x2] M Q
set_option maxRecDepth 20000 in
theorem v_X11_hands {G : Glob} {x1 : Int32} {x2 : Int32} {M : Mem} {Q : Option Value → Mem → Prop}  (h : (WpM G 3 Y_X11_judge [.ref (ad G 71), .int x1, .int x2] M (RI (fun r2 M1 => ((r2 < 0 → Q (some (.int r2)) M1) ∧ (¬ r2 < 0 → P_X11_hands_19 G x1 x2 0 0 M1 Q)))))) : C_X11_hands G x1 x2 M Q := by
  refine wp_enter (ls0 := [some (.ref (ad G 71)), some (.int x1), some (.int x2), none, none, none]) (by decide +kernel) (Nat.le_of_ble_eq_true rfl) rfl ?_
  refine wp_aload_n dX11_hands_0 rfl rfl ?_
  refine wp_iload_n dX11_hands_1 rfl rfl ?_
  refine wp_iload_n dX11_hands_2 rfl rfl ?_
  refine wp_callVI (a := 71) (d1 := 3) (As := [.int x1, .int x2]) (st := []) dX11_hands_3 rfl cm_X11_judge m_6_21 (by decide) rfl (Nat.le_of_ble_eq_true rfl) rfl h ?_
  intro r2 M1 h
  refine wp_istore_n (ls' := [some (.ref (ad G 71)), some (.int x1), some (.int x2), some (.int r2), none, none]) dX11_hands_6 rfl (by decide) rfl rfl ?_
  refine wp_iload_n dX11_hands_7 rfl rfl ?_
  refine wp_if_ge (tgt := 13) dX11_hands_8 (by decide) (fun c3 => ?_) (fun c3 => ?_)
  · replace h := h.2 c3
    refine wp_iconst (v := 0) dX11_hands_13 (by decide) ?_
    refine wp_istore (ls' := [some (.ref (ad G 71)), some (.int x1), some (.int x2), some (.int r2), some (.int 0), none]) dX11_hands_14 (by decide) rfl rfl ?_
    refine wp_iconst (v := 0) dX11_hands_16 (by decide) ?_
    refine wp_istore (ls' := [some (.ref (ad G 71)), some (.int x1), some (.int x2), some (.int r2), some (.int 0), some (.int 0)]) dX11_hands_17 (by decide) rfl rfl ?_
    exact wp_mask [true, true, true, false, true, true] rfl h
  · replace h := h.1 c3
    refine wp_iload_n dX11_hands_11 rfl rfl ?_
    exact wp_iret (ty := .int) dX11_hands_12 rfl rfl h
abbrev P_X11_kindsBy_5 (G : Glob) (x1 : Int32) (x2 : Int32) (x3 : Int32) (x4 : Int32) (M : Mem) (Q : Option Value → Mem → Prop) : Prop := Wp G 5 Y_X11_kindsBy 5 [some (.ref (ad G 71)), some (.int x1), some (.int x2), some (.int x3), some (.int x4)] [] M Q
set_option maxRecDepth 20000 in
theorem v_X11_kindsBy_5 {G : Glob} {x1 : Int32} {x2 : Int32} {x3 : Int32} {x4 : Int32} {M : Mem} {Q : Option Value → Mem → Prop}  (h : ((x4 < 6 → (vp_in x1 8 ∧ (vp_in x1 8 ∧ (WpM G 4 Y_X11_isSo [.ref (ad G 71), .int x1, .int x2, .int x4, .int (M.1 83 x1.toNatClampNeg), .int (M.1 84 x1.toNatClampNeg)] M (RI (fun r5 M4 => ((r5 = 0 → P_X11_kindsBy_5 G x1 x2 (x3 ||| 0) (x4 + 1) M4 Q) ∧ (¬ r5 = 0 → (∀ y7 : Int32, y7 = (x3 ||| (1 <<< (x4 &&& 31))) → P_X11_kindsBy_5 G x1 x2 y7 (x4 + 1) M4 Q))))))))) ∧ (¬ x4 < 6 → Q (some (.int x3)) M))) : P_X11_kindsBy_5 G x1 x2 x3 x4 M Q := by
  refine wp_iload dX11_kindsBy_5 rfl ?_
  refine wp_bipush (v := 6) dX11_kindsBy_7 (by decide) ?_
  refine wp_icmp_ge (tgt := 52) dX11_kindsBy_9 (by decide) (fun c1 => ?_) (fun c1 => ?_)
  · replace h := h.2 c1
    refine wp_iload_n dX11_kindsBy_52 rfl rfl ?_
    exact wp_iret (ty := .int) dX11_kindsBy_53 rfl rfl h
  · replace h := h.1 c1
    refine wp_iload_n dX11_kindsBy_12 rfl rfl ?_
    refine wp_aload_n dX11_kindsBy_13 rfl rfl ?_
    refine wp_iload_n dX11_kindsBy_14 rfl rfl ?_
    refine wp_iload_n dX11_kindsBy_15 rfl rfl ?_
    refine wp_iload dX11_kindsBy_16 rfl ?_
    refine wp_aload_n dX11_kindsBy_18 rfl rfl ?_
    refine wp_getR (b := 83) dX11_kindsBy_19 rfl rfl fb_11_22 m_4_177 ?_
    refine wp_iload_n dX11_kindsBy_22 rfl rfl ?_
    obtain ⟨b2, h⟩ := h
    refine wp_iald (n := 8) dX11_kindsBy_23 rfl rfl b2 ?_
    refine wp_aload_n dX11_kindsBy_24 rfl rfl ?_
    refine wp_getR (b := 84) dX11_kindsBy_25 rfl rfl fb_11_23 m_4_178 ?_
    refine wp_iload_n dX11_kindsBy_28 rfl rfl ?_
    obtain ⟨b3, h⟩ := h
    refine wp_iald (n := 8) dX11_kindsBy_29 rfl rfl b3 ?_
    refine wp_callVI (a := 71) (d1 := 4) (As := [.int x1, .int x2, .int x4, .int (M.1 83 x1.toNatClampNeg), .int (M.1 84 x1.toNatClampNeg)]) (st := [.int x3]) dX11_kindsBy_30 rfl cm_X11_isSo m_6_25 (by decide) rfl (Nat.le_of_ble_eq_true rfl) rfl h ?_
    intro r5 M4 h
    refine wp_if_eq (tgt := 43) dX11_kindsBy_33 (by decide) (fun c6 => ?_) (fun c6 => ?_)
    · replace h := h.1 c6
      refine wp_iconst (v := 0) dX11_kindsBy_43 (by decide) ?_
      refine wp_ior dX11_kindsBy_44 ?_
      refine wp_istore_n (ls' := [some (.ref (ad G 71)), some (.int x1), some (.int x2), some (.int (x3 ||| 0)), some (.int x4)]) dX11_kindsBy_45 rfl (by decide) rfl rfl ?_
      refine wp_iinc (v := (x4 + 1)) (ls' := [some (.ref (ad G 71)), some (.int x1), some (.int x2), some (.int (x3 ||| 0)), some (.int (x4 + 1))]) dX11_kindsBy_46 rfl rfl (by decide) rfl rfl ?_
      refine wp_goto (tgt := 5) dX11_kindsBy_49 (by decide) ?_
      exact h
    · replace h := h.2 c6
      refine wp_iconst (v := 1) dX11_kindsBy_36 (by decide) ?_
      refine wp_iload dX11_kindsBy_37 rfl ?_
      refine wp_ishl dX11_kindsBy_39 ?_
      refine wp_goto (tgt := 44) dX11_kindsBy_40 (by decide) ?_
      refine wp_ior dX11_kindsBy_44 ?_
      refine wp_topI (fun y7 hy7 => ?_)
      replace h := h y7 hy7
      refine wp_istore_n (ls' := [some (.ref (ad G 71)), some (.int x1), some (.int x2), some (.int y7), some (.int x4)]) dX11_kindsBy_45 rfl (by decide) rfl rfl ?_
      refine wp_iinc (v := (x4 + 1)) (ls' := [some (.ref (ad G 71)), some (.int x1), some (.int x2), some (.int y7), some (.int (x4 + 1))]) dX11_kindsBy_46 rfl rfl (by decide) rfl rfl ?_
      refine wp_goto (tgt := 5) dX11_kindsBy_49 (by decide) ?_
      exact h
abbrev C_X11_kindsBy (G : Glob) (x1 : Int32) (x2 : Int32) (M : Mem) (Q : Option Value → Mem → Prop) : Prop := WpM G 5 Y_X11_kindsBy [.ref (ad G 71), .int x1, .int x2] M Q
set_option maxRecDepth 20000 in
theorem v_X11_kindsBy {G : Glob} {x1 : Int32} {x2 : Int32} {M : Mem} {Q : Option Value → Mem → Prop}  (h : P_X11_kindsBy_5 G x1 x2 0 0 M Q) : C_X11_kindsBy G x1 x2 M Q := by
  refine wp_enter (ls0 := [some (.ref (ad G 71)), some (.int x1), some (.int x2), none, none]) (by decide +kernel) (Nat.le_of_ble_eq_true rfl) rfl ?_
  refine wp_iconst (v := 0) dX11_kindsBy_0 (by decide) ?_
  refine wp_istore_n (ls' := [some (.ref (ad G 71)), some (.int x1), some (.int x2), some (.int 0), none]) dX11_kindsBy_1 rfl (by decide) rfl rfl ?_
  refine wp_iconst (v := 0) dX11_kindsBy_2 (by decide) ?_
  refine wp_istore (ls' := [some (.ref (ad G 71)), some (.int x1), some (.int x2), some (.int 0), some (.int 0)]) dX11_kindsBy_3 (by decide) rfl rfl ?_
  exact h
abbrev C_X11_kinds (G : Glob) (x1 : Int32) (x2 : Int32) (M : Mem) (Q : Option Value → Mem → Prop) : Prop := WpM G 6 Y_X11_kinds [.ref (ad G 71), .int x1, .int x2] M Q
set_option maxRecDepth 20000 in
theorem v_X11_kinds {G : Glob} {x1 : Int32} {x2 : Int32} {M : Mem} {Q : Option Value → Mem → Prop}  (h : (WpM G 3 Y_X11_judge [.ref (ad G 71), .int x1, .int x2] M (RI (fun r2 M1 => ((r2 < 0 → Q (some (.int r2)) M1) ∧ (¬ r2 < 0 → (WpM G 5 Y_X11_kindsBy [.ref (ad G 71), .int x1, .int x2] M1 (RI (fun r5 M4 => Q (some (.int r5)) M4))))))))) : C_X11_kinds G x1 x2 M Q := by
  refine wp_enter (ls0 := [some (.ref (ad G 71)), some (.int x1), some (.int x2), none]) (by decide +kernel) (Nat.le_of_ble_eq_true rfl) rfl ?_
  refine wp_aload_n dX11_kinds_0 rfl rfl ?_
  refine wp_iload_n dX11_kinds_1 rfl rfl ?_
  refine wp_iload_n dX11_kinds_2 rfl rfl ?_
  refine wp_callVI (a := 71) (d1 := 3) (As := [.int x1, .int x2]) (st := []) dX11_kinds_3 rfl cm_X11_judge m_6_21 (by decide) rfl (Nat.le_of_ble_eq_true rfl) rfl h ?_
  intro r2 M1 h
  refine wp_istore_n (ls' := [some (.ref (ad G 71)), some (.int x1), some (.int x2), some (.int r2)]) dX11_kinds_6 rfl (by decide) rfl rfl ?_
  refine wp_iload_n dX11_kinds_7 rfl rfl ?_
  refine wp_if_ge (tgt := 15) dX11_kinds_8 (by decide) (fun c3 => ?_) (fun c3 => ?_)
  · replace h := h.2 c3
    refine wp_aload_n dX11_kinds_15 rfl rfl ?_
    refine wp_iload_n dX11_kinds_16 rfl rfl ?_
    refine wp_iload_n dX11_kinds_17 rfl rfl ?_
    refine wp_callVI (a := 71) (d1 := 5) (As := [.int x1, .int x2]) (st := []) dX11_kinds_18 rfl cm_X11_kindsBy m_6_37 (by decide) rfl (Nat.le_of_ble_eq_true rfl) rfl h ?_
    intro r5 M4 h
    exact wp_iret (ty := .int) dX11_kinds_21 rfl rfl h
  · replace h := h.1 c3
    refine wp_iload_n dX11_kinds_11 rfl rfl ?_
    refine wp_goto (tgt := 21) dX11_kinds_12 (by decide) ?_
    exact wp_iret (ty := .int) dX11_kinds_21 rfl rfl h
abbrev P_X11_partBy_6 (G : Glob) (x1 : Int32) (x2 : Int32) (x3 : Int32) (x4 : Int32) (x5 : Int32) (M : Mem) (Q : Option Value → Mem → Prop) : Prop := Wp G 4 Y_X11_partBy 6 [some (.ref (ad G 71)), some (.int x1), some (.int x2), some (.int x3), some (.int x4), some (.int x5), none, none, none] [] M Q
abbrev P_X11_partBy_19 (G : Glob) (x1 : Int32) (x2 : Int32) (x3 : Int32) (x4 : Int32) (x5 : Int32) (x6 : Int32) (x7 : Int32) (M : Mem) (Q : Option Value → Mem → Prop) : Prop := Wp G 4 Y_X11_partBy 19 [some (.ref (ad G 71)), some (.int x1), some (.int x2), some (.int x3), some (.int x4), some (.int x5), some (.int x6), some (.int x7), none] [] M Q
set_option maxRecDepth 20000 in
theorem v_X11_partBy_6 {G : Glob} {x1 : Int32} {x2 : Int32} {x3 : Int32} {x4 : Int32} {x5 : Int32} {M : Mem} {Q : Option Value → Mem → Prop}  (h : ((x5 < 6 → P_X11_partBy_19 G x1 x2 x3 x4 x5 0 0 M Q) ∧ (¬ x5 < 6 → Q (some (.int x4)) M))) : P_X11_partBy_6 G x1 x2 x3 x4 x5 M Q := by
  refine wp_iload dX11_partBy_6 rfl ?_
  refine wp_bipush (v := 6) dX11_partBy_8 (by decide) ?_
  refine wp_icmp_ge (tgt := 139) dX11_partBy_10 (by decide) (fun c1 => ?_) (fun c1 => ?_)
  · replace h := h.2 c1
    refine wp_iload dX11_partBy_139 rfl ?_
    exact wp_iret (ty := .int) dX11_partBy_141 rfl rfl h
  · replace h := h.1 c1
    refine wp_iconst (v := 0) dX11_partBy_13 (by decide) ?_
    refine wp_istore (ls' := [some (.ref (ad G 71)), some (.int x1), some (.int x2), some (.int x3), some (.int x4), some (.int x5), some (.int 0), none, none]) dX11_partBy_14 (by decide) rfl rfl ?_
    refine wp_iconst (v := 0) dX11_partBy_16 (by decide) ?_
    refine wp_istore (ls' := [some (.ref (ad G 71)), some (.int x1), some (.int x2), some (.int x3), some (.int x4), some (.int x5), some (.int 0), some (.int 0), none]) dX11_partBy_17 (by decide) rfl rfl ?_
    exact h
set_option maxRecDepth 20000 in
theorem v_X11_partBy_19 {G : Glob} {x1 : Int32} {x2 : Int32} {x3 : Int32} {x4 : Int32} {x5 : Int32} {x6 : Int32} {x7 : Int32} {M : Mem} {Q : Option Value → Mem → Prop}  (h : ((x7 < 6 → (vp_in x1 8 ∧ (vp_in x1 8 ∧ (WpM G 3 Y_X11_pairAs [.ref (ad G 71), .int x1, .int x7, .int (M.1 83 x1.toNatClampNeg), .int (M.1 84 x1.toNatClampNeg), .int x2] M (RI (fun r7 M6 => (vp_in x1 8 ∧ (vp_in x1 8 ∧ (WpM G 3 Y_X11_pairAs [.ref (ad G 71), .int x1, .int x5, .int (M6.1 83 x1.toNatClampNeg), .int (M6.1 84 x1.toNatClampNeg), .int x2] M6 (RI (fun r11 M10 => ((r7 = r11 → ((((x3 >>> (x7 &&& 31)) &&& 1) = 1 → P_X11_partBy_19 G x1 x2 x3 x4 x5 (x6 + 1) (x7 + 1) M10 Q) ∧ (¬ ((x3 >>> (x7 &&& 31)) &&& 1) = 1 → P_X11_partBy_19 G x1 x2 x3 x4 x5 (x6 + 0) (x7 + 1) M10 Q))) ∧ (¬ r7 = r11 → ((((x3 >>> (x7 &&& 31)) &&& 1) = 1 → P_X11_partBy_19 G x1 x2 x3 x4 x5 (x6 + 0) (x7 + 1) M10 Q) ∧ (¬ ((x3 >>> (x7 &&& 31)) &&& 1) = 1 → P_X11_partBy_19 G x1 x2 x3 x4 x5 (x6 + 0) (x7 + 1) M10 Q))))))))))))))) ∧ (¬ x7 < 6 → ((((x3 >>> (x5 &&& 31)) &&& 1) = 1 → ((x4 < x6 → P_X11_partBy_6 G x1 x2 x3 x6 (x5 + 1) M Q) ∧ (¬ x4 < x6 → P_X11_partBy_6 G x1 x2 x3 x4 (x5 + 1) M Q))) ∧ (¬ ((x3 >>> (x5 &&& 31)) &&& 1) = 1 → P_X11_partBy_6 G x1 x2 x3 x4 (x5 + 1) M Q))))) : P_X11_partBy_19 G x1 x2 x3 x4 x5 x6 x7 M Q := by
  refine wp_iload dX11_partBy_19 rfl ?_
  refine wp_bipush (v := 6) dX11_partBy_21 (by decide) ?_
  refine wp_icmp_ge (tgt := 107) dX11_partBy_23 (by decide) (fun c1 => ?_) (fun c1 => ?_)
  · replace h := h.2 c1
    refine wp_iload_n dX11_partBy_107 rfl rfl ?_
    refine wp_iload dX11_partBy_108 rfl ?_
    refine wp_ishr dX11_partBy_110 ?_
    refine wp_iconst (v := 1) dX11_partBy_111 (by decide) ?_
    refine wp_iand dX11_partBy_112 ?_
    refine wp_iconst (v := 1) dX11_partBy_113 (by decide) ?_
    refine wp_icmp_ne (tgt := 129) dX11_partBy_114 (by decide) (fun c2 => ?_) (fun c2 => ?_)
    · replace h := h.2 c2
      refine wp_iload dX11_partBy_129 rfl ?_
      refine wp_istore (ls' := [some (.ref (ad G 71)), some (.int x1), some (.int x2), some (.int x3), some (.int x4), some (.int x5), some (.int x6), some (.int x7), none]) dX11_partBy_131 (by decide) rfl rfl ?_
      refine wp_iinc (v := (x5 + 1)) (ls' := [some (.ref (ad G 71)), some (.int x1), some (.int x2), some (.int x3), some (.int x4), some (.int (x5 + 1)), some (.int x6), some (.int x7), none]) dX11_partBy_133 rfl rfl (by decide) rfl rfl ?_
      refine wp_goto (tgt := 6) dX11_partBy_136 (by decide) ?_
      exact wp_mask [true, true, true, true, true, true, false, false, false] rfl h
    · replace h := h.1 c2
      refine wp_iload dX11_partBy_117 rfl ?_
      refine wp_iload dX11_partBy_119 rfl ?_
      refine wp_icmp_le (tgt := 129) dX11_partBy_121 (by decide) (fun c3 => ?_) (fun c3 => ?_)
      · replace h := h.2 c3
        refine wp_iload dX11_partBy_129 rfl ?_
        refine wp_istore (ls' := [some (.ref (ad G 71)), some (.int x1), some (.int x2), some (.int x3), some (.int x4), some (.int x5), some (.int x6), some (.int x7), none]) dX11_partBy_131 (by decide) rfl rfl ?_
        refine wp_iinc (v := (x5 + 1)) (ls' := [some (.ref (ad G 71)), some (.int x1), some (.int x2), some (.int x3), some (.int x4), some (.int (x5 + 1)), some (.int x6), some (.int x7), none]) dX11_partBy_133 rfl rfl (by decide) rfl rfl ?_
        refine wp_goto (tgt := 6) dX11_partBy_136 (by decide) ?_
        exact wp_mask [true, true, true, true, true, true, false, false, false] rfl h
      · replace h := h.1 c3
        refine wp_iload dX11_partBy_124 rfl ?_
        refine wp_goto (tgt := 131) dX11_partBy_126 (by decide) ?_
        refine wp_istore (ls' := [some (.ref (ad G 71)), some (.int x1), some (.int x2), some (.int x3), some (.int x6), some (.int x5), some (.int x6), some (.int x7), none]) dX11_partBy_131 (by decide) rfl rfl ?_
        refine wp_iinc (v := (x5 + 1)) (ls' := [some (.ref (ad G 71)), some (.int x1), some (.int x2), some (.int x3), some (.int x6), some (.int (x5 + 1)), some (.int x6), some (.int x7), none]) dX11_partBy_133 rfl rfl (by decide) rfl rfl ?_
        refine wp_goto (tgt := 6) dX11_partBy_136 (by decide) ?_
        exact wp_mask [true, true, true, true, true, true, false, false, false] rfl h
  · replace h := h.1 c1
    refine wp_aload_n dX11_partBy_26 rfl rfl ?_
    refine wp_iload_n dX11_partBy_27 rfl rfl ?_
    refine wp_iload dX11_partBy_28 rfl ?_
    refine wp_aload_n dX11_partBy_30 rfl rfl ?_
    refine wp_getR (b := 83) dX11_partBy_31 rfl rfl fb_11_22 m_4_177 ?_
    refine wp_iload_n dX11_partBy_34 rfl rfl ?_
    obtain ⟨b4, h⟩ := h
    refine wp_iald (n := 8) dX11_partBy_35 rfl rfl b4 ?_
    refine wp_aload_n dX11_partBy_36 rfl rfl ?_
    refine wp_getR (b := 84) dX11_partBy_37 rfl rfl fb_11_23 m_4_178 ?_
    refine wp_iload_n dX11_partBy_40 rfl rfl ?_
    obtain ⟨b5, h⟩ := h
    refine wp_iald (n := 8) dX11_partBy_41 rfl rfl b5 ?_
    refine wp_iload_n dX11_partBy_42 rfl rfl ?_
    refine wp_callVI (a := 71) (d1 := 3) (As := [.int x1, .int x7, .int (M.1 83 x1.toNatClampNeg), .int (M.1 84 x1.toNatClampNeg), .int x2]) (st := []) dX11_partBy_43 rfl cm_X11_pairAs m_5_144 (by decide) rfl (Nat.le_of_ble_eq_true rfl) rfl h ?_
    intro r7 M6 h
    refine wp_aload_n dX11_partBy_46 rfl rfl ?_
    refine wp_iload_n dX11_partBy_47 rfl rfl ?_
    refine wp_iload dX11_partBy_48 rfl ?_
    refine wp_aload_n dX11_partBy_50 rfl rfl ?_
    refine wp_getR (b := 83) dX11_partBy_51 rfl rfl fb_11_22 m_4_177 ?_
    refine wp_iload_n dX11_partBy_54 rfl rfl ?_
    obtain ⟨b8, h⟩ := h
    refine wp_iald (n := 8) dX11_partBy_55 rfl rfl b8 ?_
    refine wp_aload_n dX11_partBy_56 rfl rfl ?_
    refine wp_getR (b := 84) dX11_partBy_57 rfl rfl fb_11_23 m_4_178 ?_
    refine wp_iload_n dX11_partBy_60 rfl rfl ?_
    obtain ⟨b9, h⟩ := h
    refine wp_iald (n := 8) dX11_partBy_61 rfl rfl b9 ?_
    refine wp_iload_n dX11_partBy_62 rfl rfl ?_
    refine wp_callVI (a := 71) (d1 := 3) (As := [.int x1, .int x5, .int (M6.1 83 x1.toNatClampNeg), .int (M6.1 84 x1.toNatClampNeg), .int x2]) (st := [.int r7]) dX11_partBy_63 rfl cm_X11_pairAs m_5_144 (by decide) rfl (Nat.le_of_ble_eq_true rfl) rfl h ?_
    intro r11 M10 h
    refine wp_icmp_ne (tgt := 73) dX11_partBy_66 (by decide) (fun c12 => ?_) (fun c12 => ?_)
    · replace h := h.2 c12
      refine wp_iconst (v := 0) dX11_partBy_73 (by decide) ?_
      refine wp_istore (ls' := [some (.ref (ad G 71)), some (.int x1), some (.int x2), some (.int x3), some (.int x4), some (.int x5), some (.int x6), some (.int x7), some (.int 0)]) dX11_partBy_74 (by decide) rfl rfl ?_
      refine wp_iload dX11_partBy_76 rfl ?_
      refine wp_iload_n dX11_partBy_78 rfl rfl ?_
      refine wp_iload dX11_partBy_79 rfl ?_
      refine wp_ishr dX11_partBy_81 ?_
      refine wp_iconst (v := 1) dX11_partBy_82 (by decide) ?_
      refine wp_iand dX11_partBy_83 ?_
      refine wp_iconst (v := 1) dX11_partBy_84 (by decide) ?_
      refine wp_icmp_ne (tgt := 97) dX11_partBy_85 (by decide) (fun c13 => ?_) (fun c13 => ?_)
      · replace h := h.2 c13
        refine wp_iconst (v := 0) dX11_partBy_97 (by decide) ?_
        refine wp_iadd dX11_partBy_98 ?_
        refine wp_istore (ls' := [some (.ref (ad G 71)), some (.int x1), some (.int x2), some (.int x3), some (.int x4), some (.int x5), some (.int (x6 + 0)), some (.int x7), some (.int 0)]) dX11_partBy_99 (by decide) rfl rfl ?_
        refine wp_iinc (v := (x7 + 1)) (ls' := [some (.ref (ad G 71)), some (.int x1), some (.int x2), some (.int x3), some (.int x4), some (.int x5), some (.int (x6 + 0)), some (.int (x7 + 1)), some (.int 0)]) dX11_partBy_101 rfl rfl (by decide) rfl rfl ?_
        refine wp_goto (tgt := 19) dX11_partBy_104 (by decide) ?_
        exact wp_mask [true, true, true, true, true, true, true, true, false] rfl h
      · replace h := h.1 c13
        refine wp_iload dX11_partBy_88 rfl ?_
        refine wp_if_eq (tgt := 97) dX11_partBy_90 (by decide) (fun c14 => ?_) (fun c14 => ?_)
        · refine wp_iconst (v := 0) dX11_partBy_97 (by decide) ?_
          refine wp_iadd dX11_partBy_98 ?_
          refine wp_istore (ls' := [some (.ref (ad G 71)), some (.int x1), some (.int x2), some (.int x3), some (.int x4), some (.int x5), some (.int (x6 + 0)), some (.int x7), some (.int 0)]) dX11_partBy_99 (by decide) rfl rfl ?_
          refine wp_iinc (v := (x7 + 1)) (ls' := [some (.ref (ad G 71)), some (.int x1), some (.int x2), some (.int x3), some (.int x4), some (.int x5), some (.int (x6 + 0)), some (.int (x7 + 1)), some (.int 0)]) dX11_partBy_101 rfl rfl (by decide) rfl rfl ?_
          refine wp_goto (tgt := 19) dX11_partBy_104 (by decide) ?_
          exact wp_mask [true, true, true, true, true, true, true, true, false] rfl h
        · exact absurd c14 (by decide)
    · replace h := h.1 c12
      refine wp_iconst (v := 1) dX11_partBy_69 (by decide) ?_
      refine wp_goto (tgt := 74) dX11_partBy_70 (by decide) ?_
      refine wp_istore (ls' := [some (.ref (ad G 71)), some (.int x1), some (.int x2), some (.int x3), some (.int x4), some (.int x5), some (.int x6), some (.int x7), some (.int 1)]) dX11_partBy_74 (by decide) rfl rfl ?_
      refine wp_iload dX11_partBy_76 rfl ?_
      refine wp_iload_n dX11_partBy_78 rfl rfl ?_
      refine wp_iload dX11_partBy_79 rfl ?_
      refine wp_ishr dX11_partBy_81 ?_
      refine wp_iconst (v := 1) dX11_partBy_82 (by decide) ?_
      refine wp_iand dX11_partBy_83 ?_
      refine wp_iconst (v := 1) dX11_partBy_84 (by decide) ?_
      refine wp_icmp_ne (tgt := 97) dX11_partBy_85 (by decide) (fun c15 => ?_) (fun c15 => ?_)
      · replace h := h.2 c15
        refine wp_iconst (v := 0) dX11_partBy_97 (by decide) ?_
        refine wp_iadd dX11_partBy_98 ?_
        refine wp_istore (ls' := [some (.ref (ad G 71)), some (.int x1), some (.int x2), some (.int x3), some (.int x4), some (.int x5), some (.int (x6 + 0)), some (.int x7), some (.int 1)]) dX11_partBy_99 (by decide) rfl rfl ?_
        refine wp_iinc (v := (x7 + 1)) (ls' := [some (.ref (ad G 71)), some (.int x1), some (.int x2), some (.int x3), some (.int x4), some (.int x5), some (.int (x6 + 0)), some (.int (x7 + 1)), some (.int 1)]) dX11_partBy_101 rfl rfl (by decide) rfl rfl ?_
        refine wp_goto (tgt := 19) dX11_partBy_104 (by decide) ?_
        exact wp_mask [true, true, true, true, true, true, true, true, false] rfl h
      · replace h := h.1 c15
        refine wp_iload dX11_partBy_88 rfl ?_
        refine wp_if_eq (tgt := 97) dX11_partBy_90 (by decide) (fun c16 => ?_) (fun c16 => ?_)
        · exact absurd c16 (by decide)
        · refine wp_iconst (v := 1) dX11_partBy_93 (by decide) ?_
          refine wp_goto (tgt := 98) dX11_partBy_94 (by decide) ?_
          refine wp_iadd dX11_partBy_98 ?_
          refine wp_istore (ls' := [some (.ref (ad G 71)), some (.int x1), some (.int x2), some (.int x3), some (.int x4), some (.int x5), some (.int (x6 + 1)), some (.int x7), some (.int 1)]) dX11_partBy_99 (by decide) rfl rfl ?_
          refine wp_iinc (v := (x7 + 1)) (ls' := [some (.ref (ad G 71)), some (.int x1), some (.int x2), some (.int x3), some (.int x4), some (.int x5), some (.int (x6 + 1)), some (.int (x7 + 1)), some (.int 1)]) dX11_partBy_101 rfl rfl (by decide) rfl rfl ?_
          refine wp_goto (tgt := 19) dX11_partBy_104 (by decide) ?_
          exact wp_mask [true, true, true, true, true, true, true, true, false] rfl h
abbrev C_X11_partBy (G : Glob) (x1 : Int32) (x2 : Int32) (x3 : Int32) (M : Mem) (Q : Option Value → Mem → Prop) : Prop := WpM G 4 Y_X11_partBy [.ref (ad G 71), .int x1, .int x2, .int x3] M Q
set_option maxRecDepth 20000 in
theorem v_X11_partBy {G : Glob} {x1 : Int32} {x2 : Int32} {x3 : Int32} {M : Mem} {Q : Option Value → Mem → Prop}  (h : P_X11_partBy_6 G x1 x2 x3 0 0 M Q) : C_X11_partBy G x1 x2 x3 M Q := by
  refine wp_enter (ls0 := [some (.ref (ad G 71)), some (.int x1), some (.int x2), some (.int x3), none, none, none, none, none]) (by decide +kernel) (Nat.le_of_ble_eq_true rfl) rfl ?_
  refine wp_iconst (v := 0) dX11_partBy_0 (by decide) ?_
  refine wp_istore (ls' := [some (.ref (ad G 71)), some (.int x1), some (.int x2), some (.int x3), some (.int 0), none, none, none, none]) dX11_partBy_1 (by decide) rfl rfl ?_
  refine wp_iconst (v := 0) dX11_partBy_3 (by decide) ?_
  refine wp_istore (ls' := [some (.ref (ad G 71)), some (.int x1), some (.int x2), some (.int x3), some (.int 0), some (.int 0), none, none, none]) dX11_partBy_4 (by decide) rfl rfl ?_
  exact h
abbrev P_X11_test_31 (G : Glob) (x1 : Int32) (x4 : Int32) (x5 : Int32) (x6 : Int32) (x7 : Int32) (M : Mem) (Q : Option Value → Mem → Prop) : Prop := Wp G 6 Y_X11_test 31 [some (.ref (ad G 71)), some (.int x1), none, none, some (.int x4), some (.int x5), some (.int x6), some (.int x7), none] [] M Q
set_option maxRecDepth 20000 in
theorem v_X11_test_31 {G : Glob} {x1 : Int32} {x4 : Int32} {x5 : Int32} {x6 : Int32} {x7 : Int32} {M : Mem} {Q : Option Value → Mem → Prop}  (h : ((x7 < (M.1 71 20) → ((x4 = 0 → ((x5 = (-9 : Int32) → Q (some (.int x5)) M) ∧ (¬ x5 = (-9 : Int32) → (∀ M6 : Mem, M6 = upI M 71 0 x6 → Q (some (.int x5)) M6)))) ∧ (¬ x4 = 0 → ((x7 = x1 → ((x7 = x1 → P_X11_test_31 G x1 x4 x5 x6 (x7 + 1) M Q) ∧ (¬ x7 = x1 → ((x5 = (-9 : Int32) → P_X11_test_31 G x1 x4 x7 0 (x7 + 1) M Q) ∧ (¬ x5 = (-9 : Int32) → (((0 : Int32) < x6 → P_X11_test_31 G x1 x4 x7 0 (x7 + 1) M Q) ∧ (¬ (0 : Int32) < x6 → P_X11_test_31 G x1 x4 x5 x6 (x7 + 1) M Q))))))) ∧ (¬ x7 = x1 → (WpM G 4 Y_X11_partBy [.ref (ad G 71), .int x1, .int x7, .int x4] M (RI (fun r9 M8 => ((x7 = x1 → P_X11_test_31 G x1 x4 x5 x6 (x7 + 1) M8 Q) ∧ (¬ x7 = x1 → ((x5 = (-9 : Int32) → P_X11_test_31 G x1 x4 x7 r9 (x7 + 1) M8 Q) ∧ (¬ x5 = (-9 : Int32) → ((r9 < x6 → P_X11_test_31 G x1 x4 x7 r9 (x7 + 1) M8 Q) ∧ (¬ r9 < x6 → P_X11_test_31 G x1 x4 x5 x6 (x7 + 1) M8 Q)))))))))))))) ∧ (¬ x7 < (M.1 71 20) → ((x5 = (-9 : Int32) → Q (some (.int x5)) M) ∧ (¬ x5 = (-9 : Int32) → (∀ M3 : Mem, M3 = upI M 71 0 x6 → Q (some (.int x5)) M3)))))) : P_X11_test_31 G x1 x4 x5 x6 x7 M Q := by
  refine wp_iload dX11_test_31 rfl ?_
  refine wp_aload_n dX11_test_33 rfl rfl ?_
  refine wp_getI dX11_test_34 rfl fb_11_20 m_4_175 ?_
  refine wp_icmp_ge (tgt := 100) dX11_test_37 (by decide) (fun c1 => ?_) (fun c1 => ?_)
  · replace h := h.2 c1
    refine wp_iload dX11_test_100 rfl ?_
    refine wp_bipush (v := (-9 : Int32)) dX11_test_102 (by decide) ?_
    refine wp_icmp_eq (tgt := 113) dX11_test_104 (by decide) (fun c2 => ?_) (fun c2 => ?_)
    · replace h := h.1 c2
      refine wp_iload dX11_test_113 rfl ?_
      exact wp_iret (ty := .int) dX11_test_115 rfl rfl h
    · replace h := h.2 c2
      refine wp_aload_n dX11_test_107 rfl rfl ?_
      refine wp_iload dX11_test_108 rfl ?_
      refine wp_putI dX11_test_110 rfl fp_11_0 m_4_155 ?_
      refine wp_topM (fun M3 hM3 => ?_)
      replace h := h M3 hM3
      refine wp_iload dX11_test_113 rfl ?_
      exact wp_iret (ty := .int) dX11_test_115 rfl rfl h
  · replace h := h.1 c1
    refine wp_iload dX11_test_40 rfl ?_
    refine wp_if_eq (tgt := 100) dX11_test_42 (by decide) (fun c4 => ?_) (fun c4 => ?_)
    · replace h := h.1 c4
      refine wp_iload dX11_test_100 rfl ?_
      refine wp_bipush (v := (-9 : Int32)) dX11_test_102 (by decide) ?_
      refine wp_icmp_eq (tgt := 113) dX11_test_104 (by decide) (fun c5 => ?_) (fun c5 => ?_)
      · replace h := h.1 c5
        refine wp_iload dX11_test_113 rfl ?_
        exact wp_iret (ty := .int) dX11_test_115 rfl rfl h
      · replace h := h.2 c5
        refine wp_aload_n dX11_test_107 rfl rfl ?_
        refine wp_iload dX11_test_108 rfl ?_
        refine wp_putI dX11_test_110 rfl fp_11_0 m_4_155 ?_
        refine wp_topM (fun M6 hM6 => ?_)
        replace h := h M6 hM6
        refine wp_iload dX11_test_113 rfl ?_
        exact wp_iret (ty := .int) dX11_test_115 rfl rfl h
    · replace h := h.2 c4
      refine wp_iload dX11_test_45 rfl ?_
      refine wp_iload_n dX11_test_47 rfl rfl ?_
      refine wp_icmp_ne (tgt := 55) dX11_test_48 (by decide) (fun c7 => ?_) (fun c7 => ?_)
      · replace h := h.2 c7
        refine wp_aload_n dX11_test_55 rfl rfl ?_
        refine wp_iload_n dX11_test_56 rfl rfl ?_
        refine wp_iload dX11_test_57 rfl ?_
        refine wp_iload dX11_test_59 rfl ?_
        refine wp_callVI (a := 71) (d1 := 4) (As := [.int x1, .int x7, .int x4]) (st := []) dX11_test_61 rfl cm_X11_partBy m_6_45 (by decide) rfl (Nat.le_of_ble_eq_true rfl) rfl h ?_
        intro r9 M8 h
        refine wp_istore (ls' := [some (.ref (ad G 71)), some (.int x1), none, none, some (.int x4), some (.int x5), some (.int x6), some (.int x7), some (.int r9)]) dX11_test_64 (by decide) rfl rfl ?_
        refine wp_iload dX11_test_66 rfl ?_
        refine wp_iload_n dX11_test_68 rfl rfl ?_
        refine wp_icmp_eq (tgt := 94) dX11_test_69 (by decide) (fun c10 => ?_) (fun c10 => ?_)
        · replace h := h.1 c10
          refine wp_iinc (v := (x7 + 1)) (ls' := [some (.ref (ad G 71)), some (.int x1), none, none, some (.int x4), some (.int x5), some (.int x6), some (.int (x7 + 1)), some (.int r9)]) dX11_test_94 rfl rfl (by decide) rfl rfl ?_
          refine wp_goto (tgt := 31) dX11_test_97 (by decide) ?_
          exact wp_mask [true, true, false, false, true, true, true, true, false] rfl h
        · replace h := h.2 c10
          refine wp_iload dX11_test_72 rfl ?_
          refine wp_bipush (v := (-9 : Int32)) dX11_test_74 (by decide) ?_
          refine wp_icmp_eq (tgt := 86) dX11_test_76 (by decide) (fun c11 => ?_) (fun c11 => ?_)
          · replace h := h.1 c11
            refine wp_iload dX11_test_86 rfl ?_
            refine wp_istore (ls' := [some (.ref (ad G 71)), some (.int x1), none, none, some (.int x4), some (.int x7), some (.int x6), some (.int x7), some (.int r9)]) dX11_test_88 (by decide) rfl rfl ?_
            refine wp_iload dX11_test_90 rfl ?_
            refine wp_istore (ls' := [some (.ref (ad G 71)), some (.int x1), none, none, some (.int x4), some (.int x7), some (.int r9), some (.int x7), some (.int r9)]) dX11_test_92 (by decide) rfl rfl ?_
            refine wp_iinc (v := (x7 + 1)) (ls' := [some (.ref (ad G 71)), some (.int x1), none, none, some (.int x4), some (.int x7), some (.int r9), some (.int (x7 + 1)), some (.int r9)]) dX11_test_94 rfl rfl (by decide) rfl rfl ?_
            refine wp_goto (tgt := 31) dX11_test_97 (by decide) ?_
            exact wp_mask [true, true, false, false, true, true, true, true, false] rfl h
          · replace h := h.2 c11
            refine wp_iload dX11_test_79 rfl ?_
            refine wp_iload dX11_test_81 rfl ?_
            refine wp_icmp_ge (tgt := 94) dX11_test_83 (by decide) (fun c12 => ?_) (fun c12 => ?_)
            · replace h := h.2 c12
              refine wp_iinc (v := (x7 + 1)) (ls' := [some (.ref (ad G 71)), some (.int x1), none, none, some (.int x4), some (.int x5), some (.int x6), some (.int (x7 + 1)), some (.int r9)]) dX11_test_94 rfl rfl (by decide) rfl rfl ?_
              refine wp_goto (tgt := 31) dX11_test_97 (by decide) ?_
              exact wp_mask [true, true, false, false, true, true, true, true, false] rfl h
            · replace h := h.1 c12
              refine wp_iload dX11_test_86 rfl ?_
              refine wp_istore (ls' := [some (.ref (ad G 71)), some (.int x1), none, none, some (.int x4), some (.int x7), some (.int x6), some (.int x7), some (.int r9)]) dX11_test_88 (by decide) rfl rfl ?_
              refine wp_iload dX11_test_90 rfl ?_
              refine wp_istore (ls' := [some (.ref (ad G 71)), some (.int x1), none, none, some (.int x4), some (.int x7), some (.int r9), some (.int x7), some (.int r9)]) dX11_test_92 (by decide) rfl rfl ?_
              refine wp_iinc (v := (x7 + 1)) (ls' := [some (.ref (ad G 71)), some (.int x1), none, none, some (.int x4), some (.int x7), some (.int r9), some (.int (x7 + 1)), some (.int r9)]) dX11_test_94 rfl rfl (by decide) rfl rfl ?_
              refine wp_goto (tgt := 31) dX11_test_97 (by decide) ?_
              exact wp_mask [true, true, false, false, true, true, true, true, false] rfl h
      · replace h := h.1 c7
        refine wp_iconst (v := 0) dX11_test_51 (by decide) ?_
        refine wp_goto (tgt := 64) dX11_test_52 (by decide) ?_
        refine wp_istore (ls' := [some (.ref (ad G 71)), some (.int x1), none, none, some (.int x4), some (.int x5), some (.int x6), some (.int x7), some (.int 0)]) dX11_test_64 (by decide) rfl rfl ?_
        refine wp_iload dX11_test_66 rfl ?_
        refine wp_iload_n dX11_test_68 rfl rfl ?_
        refine wp_icmp_eq (tgt := 94) dX11_test_69 (by decide) (fun c13 => ?_) (fun c13 => ?_)
        · replace h := h.1 c13
          refine wp_iinc (v := (x7 + 1)) (ls' := [some (.ref (ad G 71)), some (.int x1), none, none, some (.int x4), some (.int x5), some (.int x6), some (.int (x7 + 1)), some (.int 0)]) dX11_test_94 rfl rfl (by decide) rfl rfl ?_
          refine wp_goto (tgt := 31) dX11_test_97 (by decide) ?_
          exact wp_mask [true, true, false, false, true, true, true, true, false] rfl h
        · replace h := h.2 c13
          refine wp_iload dX11_test_72 rfl ?_
          refine wp_bipush (v := (-9 : Int32)) dX11_test_74 (by decide) ?_
          refine wp_icmp_eq (tgt := 86) dX11_test_76 (by decide) (fun c14 => ?_) (fun c14 => ?_)
          · replace h := h.1 c14
            refine wp_iload dX11_test_86 rfl ?_
            refine wp_istore (ls' := [some (.ref (ad G 71)), some (.int x1), none, none, some (.int x4), some (.int x7), some (.int x6), some (.int x7), some (.int 0)]) dX11_test_88 (by decide) rfl rfl ?_
            refine wp_iload dX11_test_90 rfl ?_
            refine wp_istore (ls' := [some (.ref (ad G 71)), some (.int x1), none, none, some (.int x4), some (.int x7), some (.int 0), some (.int x7), some (.int 0)]) dX11_test_92 (by decide) rfl rfl ?_
            refine wp_iinc (v := (x7 + 1)) (ls' := [some (.ref (ad G 71)), some (.int x1), none, none, some (.int x4), some (.int x7), some (.int 0), some (.int (x7 + 1)), some (.int 0)]) dX11_test_94 rfl rfl (by decide) rfl rfl ?_
            refine wp_goto (tgt := 31) dX11_test_97 (by decide) ?_
            exact wp_mask [true, true, false, false, true, true, true, true, false] rfl h
          · replace h := h.2 c14
            refine wp_iload dX11_test_79 rfl ?_
            refine wp_iload dX11_test_81 rfl ?_
            refine wp_icmp_ge (tgt := 94) dX11_test_83 (by decide) (fun c15 => ?_) (fun c15 => ?_)
            · replace h := h.2 c15
              refine wp_iinc (v := (x7 + 1)) (ls' := [some (.ref (ad G 71)), some (.int x1), none, none, some (.int x4), some (.int x5), some (.int x6), some (.int (x7 + 1)), some (.int 0)]) dX11_test_94 rfl rfl (by decide) rfl rfl ?_
              refine wp_goto (tgt := 31) dX11_test_97 (by decide) ?_
              exact wp_mask [true, true, false, false, true, true, true, true, false] rfl h
            · replace h := h.1 c15
              refine wp_iload dX11_test_86 rfl ?_
              refine wp_istore (ls' := [some (.ref (ad G 71)), some (.int x1), none, none, some (.int x4), some (.int x7), some (.int x6), some (.int x7), some (.int 0)]) dX11_test_88 (by decide) rfl rfl ?_
              refine wp_iload dX11_test_90 rfl ?_
              refine wp_istore (ls' := [some (.ref (ad G 71)), some (.int x1), none, none, some (.int x4), some (.int x7), some (.int 0), some (.int x7), some (.int 0)]) dX11_test_92 (by decide) rfl rfl ?_
              refine wp_iinc (v := (x7 + 1)) (ls' := [some (.ref (ad G 71)), some (.int x1), none, none, some (.int x4), some (.int x7), some (.int 0), some (.int (x7 + 1)), some (.int 0)]) dX11_test_94 rfl rfl (by decide) rfl rfl ?_
              refine wp_goto (tgt := 31) dX11_test_97 (by decide) ?_
              exact wp_mask [true, true, false, false, true, true, true, true, false] rfl h
abbrev C_X11_test (G : Glob) (x1 : Int32) (x2 : Int32) (M : Mem) (Q : Option Value → Mem → Prop) : Prop := WpM G 6 Y_X11_test [.ref (ad G 71), .int x1, .int x2] M Q
set_option maxRecDepth 20000 in
theorem v_X11_test {G : Glob} {x1 : Int32} {x2 : Int32} {M : Mem} {Q : Option Value → Mem → Prop}  (h : (WpM G 3 Y_X11_judge [.ref (ad G 71), .int x1, .int x2] M (RI (fun r2 M1 => ((r2 < 0 → Q (some (.int r2)) M1) ∧ (¬ r2 < 0 → (WpM G 5 Y_X11_kindsBy [.ref (ad G 71), .int x1, .int x2] M1 (RI (fun r5 M4 => P_X11_test_31 G x1 r5 (-9 : Int32) 0 0 M4 Q))))))))) : C_X11_test G x1 x2 M Q := by
  refine wp_enter (ls0 := [some (.ref (ad G 71)), some (.int x1), some (.int x2), none, none, none, none, none, none]) (by decide +kernel) (Nat.le_of_ble_eq_true rfl) rfl ?_
  refine wp_aload_n dX11_test_0 rfl rfl ?_
  refine wp_iload_n dX11_test_1 rfl rfl ?_
  refine wp_iload_n dX11_test_2 rfl rfl ?_
  refine wp_callVI (a := 71) (d1 := 3) (As := [.int x1, .int x2]) (st := []) dX11_test_3 rfl cm_X11_judge m_6_21 (by decide) rfl (Nat.le_of_ble_eq_true rfl) rfl h ?_
  intro r2 M1 h
  refine wp_istore_n (ls' := [some (.ref (ad G 71)), some (.int x1), some (.int x2), some (.int r2), none, none, none, none, none]) dX11_test_6 rfl (by decide) rfl rfl ?_
  refine wp_iload_n dX11_test_7 rfl rfl ?_
  refine wp_if_ge (tgt := 13) dX11_test_8 (by decide) (fun c3 => ?_) (fun c3 => ?_)
  · replace h := h.2 c3
    refine wp_aload_n dX11_test_13 rfl rfl ?_
    refine wp_iload_n dX11_test_14 rfl rfl ?_
    refine wp_iload_n dX11_test_15 rfl rfl ?_
    refine wp_callVI (a := 71) (d1 := 5) (As := [.int x1, .int x2]) (st := []) dX11_test_16 rfl cm_X11_kindsBy m_6_37 (by decide) rfl (Nat.le_of_ble_eq_true rfl) rfl h ?_
    intro r5 M4 h
    refine wp_istore (ls' := [some (.ref (ad G 71)), some (.int x1), some (.int x2), some (.int r2), some (.int r5), none, none, none, none]) dX11_test_19 (by decide) rfl rfl ?_
    refine wp_bipush (v := (-9 : Int32)) dX11_test_21 (by decide) ?_
    refine wp_istore (ls' := [some (.ref (ad G 71)), some (.int x1), some (.int x2), some (.int r2), some (.int r5), some (.int (-9 : Int32)), none, none, none]) dX11_test_23 (by decide) rfl rfl ?_
    refine wp_iconst (v := 0) dX11_test_25 (by decide) ?_
    refine wp_istore (ls' := [some (.ref (ad G 71)), some (.int x1), some (.int x2), some (.int r2), some (.int r5), some (.int (-9 : Int32)), some (.int 0), none, none]) dX11_test_26 (by decide) rfl rfl ?_
    refine wp_iconst (v := 0) dX11_test_28 (by decide) ?_
    refine wp_istore (ls' := [some (.ref (ad G 71)), some (.int x1), some (.int x2), some (.int r2), some (.int r5), some (.int (-9 : Int32)), some (.int 0), some (.int 0), none]) dX11_test_29 (by decide) rfl rfl ?_
    exact wp_mask [true, true, false, false, true, true, true, true, false] rfl h
  · replace h := h.1 c3
    refine wp_iload_n dX11_test_11 rfl rfl ?_
    exact wp_iret (ty := .int) dX11_test_12 rfl rfl h
abbrev P_X11_unitOf_4 (G : Glob) (x0 : Int32) (x1 : Int32) (x2 : Int32) (M : Mem) (Q : Option Value → Mem → Prop) : Prop := Wp G 1 Y_X11_unitOf 4 [some (.int x0), some (.int x1), some (.int x2)] [] M Q
set_option maxRecDepth 20000 in
theorem v_X11_unitOf_4 {G : Glob} {x0 : Int32} {x1 : Int32} {x2 : Int32} {M : Mem} {Q : Option Value → Mem → Prop}  (h : ((x2 < x0 → P_X11_unitOf_4 G x0 (x1 * 3) (x2 + 1) M Q) ∧ (¬ x2 < x0 → Q (some (.int x1)) M))) : P_X11_unitOf_4 G x0 x1 x2 M Q := by
  refine wp_iload_n dX11_unitOf_4 rfl rfl ?_
  refine wp_iload_n dX11_unitOf_5 rfl rfl ?_
  refine wp_icmp_ge (tgt := 19) dX11_unitOf_6 (by decide) (fun c1 => ?_) (fun c1 => ?_)
  · replace h := h.2 c1
    refine wp_iload_n dX11_unitOf_19 rfl rfl ?_
    exact wp_iret (ty := .int) dX11_unitOf_20 rfl rfl h
  · replace h := h.1 c1
    refine wp_iload_n dX11_unitOf_9 rfl rfl ?_
    refine wp_iconst (v := 3) dX11_unitOf_10 (by decide) ?_
    refine wp_imul dX11_unitOf_11 ?_
    refine wp_istore_n (ls' := [some (.int x0), some (.int (x1 * 3)), some (.int x2)]) dX11_unitOf_12 rfl (by decide) rfl rfl ?_
    refine wp_iinc (v := (x2 + 1)) (ls' := [some (.int x0), some (.int (x1 * 3)), some (.int (x2 + 1))]) dX11_unitOf_13 rfl rfl (by decide) rfl rfl ?_
    refine wp_goto (tgt := 4) dX11_unitOf_16 (by decide) ?_
    exact h
abbrev C_X11_unitOf (G : Glob) (x0 : Int32) (M : Mem) (Q : Option Value → Mem → Prop) : Prop := WpM G 1 Y_X11_unitOf [.int x0] M Q
set_option maxRecDepth 20000 in
theorem v_X11_unitOf {G : Glob} {x0 : Int32} {M : Mem} {Q : Option Value → Mem → Prop}  (h : P_X11_unitOf_4 G x0 1 0 M Q) : C_X11_unitOf G x0 M Q := by
  refine wp_enter (ls0 := [some (.int x0), none, none]) (by decide +kernel) (Nat.le_of_ble_eq_true rfl) rfl ?_
  refine wp_iconst (v := 1) dX11_unitOf_0 (by decide) ?_
  refine wp_istore_n (ls' := [some (.int x0), some (.int 1), none]) dX11_unitOf_1 rfl (by decide) rfl rfl ?_
  refine wp_iconst (v := 0) dX11_unitOf_2 (by decide) ?_
  refine wp_istore_n (ls' := [some (.int x0), some (.int 1), some (.int 0)]) dX11_unitOf_3 rfl (by decide) rfl rfl ?_
  exact h
abbrev P_X11_hasOf_8 (G : Glob) (x2 : Int32) (x3 : Int32) (x4 : Int32) (x5 : Int32) (M : Mem) (Q : Option Value → Mem → Prop) : Prop := Wp G 1 Y_X11_hasOf 8 [some (.ref (ad G 71)), none, some (.int x2), some (.int x3), some (.int x4), some (.int x5)] [] M Q
set_option maxRecDepth 20000 in
theorem v_X11_hasOf_8 {G : Glob} {x2 : Int32} {x3 : Int32} {x4 : Int32} {x5 : Int32} {M : Mem} {Q : Option Value → Mem → Prop}  (h : ((x5 < (M.1 71 20) → (((x4 - x4 / 3 * 3) = x2 → (∀ y3 : Int32, y3 = (x3 ||| (1 <<< (x5 &&& 31))) → P_X11_hasOf_8 G x2 y3 (x4 / 3) (x5 + 1) M Q)) ∧ (¬ (x4 - x4 / 3 * 3) = x2 → P_X11_hasOf_8 G x2 (x3 ||| 0) (x4 / 3) (x5 + 1) M Q))) ∧ (¬ x5 < (M.1 71 20) → Q (some (.int x3)) M))) : P_X11_hasOf_8 G x2 x3 x4 x5 M Q := by
  refine wp_iload dX11_hasOf_8 rfl ?_
  refine wp_aload_n dX11_hasOf_10 rfl rfl ?_
  refine wp_getI dX11_hasOf_11 rfl fb_11_20 m_4_175 ?_
  refine wp_icmp_ge (tgt := 48) dX11_hasOf_14 (by decide) (fun c1 => ?_) (fun c1 => ?_)
  · replace h := h.2 c1
    refine wp_iload_n dX11_hasOf_48 rfl rfl ?_
    exact wp_iret (ty := .int) dX11_hasOf_49 rfl rfl h
  · replace h := h.1 c1
    refine wp_iload_n dX11_hasOf_17 rfl rfl ?_
    refine wp_iload dX11_hasOf_18 rfl ?_
    refine wp_iconst (v := 3) dX11_hasOf_20 (by decide) ?_
    refine wp_irem dX11_hasOf_21 (by decide) ?_
    refine wp_iload_n dX11_hasOf_22 rfl rfl ?_
    refine wp_icmp_ne (tgt := 33) dX11_hasOf_23 (by decide) (fun c2 => ?_) (fun c2 => ?_)
    · replace h := h.2 c2
      refine wp_iconst (v := 0) dX11_hasOf_33 (by decide) ?_
      refine wp_ior dX11_hasOf_34 ?_
      refine wp_istore_n (ls' := [some (.ref (ad G 71)), none, some (.int x2), some (.int (x3 ||| 0)), some (.int x4), some (.int x5)]) dX11_hasOf_35 rfl (by decide) rfl rfl ?_
      refine wp_iload dX11_hasOf_36 rfl ?_
      refine wp_iconst (v := 3) dX11_hasOf_38 (by decide) ?_
      refine wp_idiv dX11_hasOf_39 (by decide) ?_
      refine wp_istore (ls' := [some (.ref (ad G 71)), none, some (.int x2), some (.int (x3 ||| 0)), some (.int (x4 / 3)), some (.int x5)]) dX11_hasOf_40 (by decide) rfl rfl ?_
      refine wp_iinc (v := (x5 + 1)) (ls' := [some (.ref (ad G 71)), none, some (.int x2), some (.int (x3 ||| 0)), some (.int (x4 / 3)), some (.int (x5 + 1))]) dX11_hasOf_42 rfl rfl (by decide) rfl rfl ?_
      refine wp_goto (tgt := 8) dX11_hasOf_45 (by decide) ?_
      exact h
    · replace h := h.1 c2
      refine wp_iconst (v := 1) dX11_hasOf_26 (by decide) ?_
      refine wp_iload dX11_hasOf_27 rfl ?_
      refine wp_ishl dX11_hasOf_29 ?_
      refine wp_goto (tgt := 34) dX11_hasOf_30 (by decide) ?_
      refine wp_ior dX11_hasOf_34 ?_
      refine wp_topI (fun y3 hy3 => ?_)
      replace h := h y3 hy3
      refine wp_istore_n (ls' := [some (.ref (ad G 71)), none, some (.int x2), some (.int y3), some (.int x4), some (.int x5)]) dX11_hasOf_35 rfl (by decide) rfl rfl ?_
      refine wp_iload dX11_hasOf_36 rfl ?_
      refine wp_iconst (v := 3) dX11_hasOf_38 (by decide) ?_
      refine wp_idiv dX11_hasOf_39 (by decide) ?_
      refine wp_istore (ls' := [some (.ref (ad G 71)), none, some (.int x2), some (.int y3), some (.int (x4 / 3)), some (.int x5)]) dX11_hasOf_40 (by decide) rfl rfl ?_
      refine wp_iinc (v := (x5 + 1)) (ls' := [some (.ref (ad G 71)), none, some (.int x2), some (.int y3), some (.int (x4 / 3)), some (.int (x5 + 1))]) dX11_hasOf_42 rfl rfl (by decide) rfl rfl ?_
      refine wp_goto (tgt := 8) dX11_hasOf_45 (by decide) ?_
      exact h
abbrev C_X11_hasOf (G : Glob) (x1 : Int32) (x2 : Int32) (M : Mem) (Q : Option Value → Mem → Prop) : Prop := WpM G 1 Y_X11_hasOf [.ref (ad G 71), .int x1, .int x2] M Q
set_option maxRecDepth 20000 in
theorem v_X11_hasOf {G : Glob} {x1 : Int32} {x2 : Int32} {M : Mem} {Q : Option Value → Mem → Prop}  (h : P_X11_hasOf_8 G x2 0 x1 0 M Q) : C_X11_hasOf G x1 x2 M Q := by
  refine wp_enter (ls0 := [some (.ref (ad G 71)), some (.int x1), some (.int x2), none, none, none]) (by decide +kernel) (Nat.le_of_ble_eq_true rfl) rfl ?_
  refine wp_iconst (v := 0) dX11_hasOf_0 (by decide) ?_
  refine wp_istore_n (ls' := [some (.ref (ad G 71)), some (.int x1), some (.int x2), some (.int 0), none, none]) dX11_hasOf_1 rfl (by decide) rfl rfl ?_
  refine wp_iload_n dX11_hasOf_2 rfl rfl ?_
  refine wp_istore (ls' := [some (.ref (ad G 71)), some (.int x1), some (.int x2), some (.int 0), some (.int x1), none]) dX11_hasOf_3 (by decide) rfl rfl ?_
  refine wp_iconst (v := 0) dX11_hasOf_5 (by decide) ?_
  refine wp_istore (ls' := [some (.ref (ad G 71)), some (.int x1), some (.int x2), some (.int 0), some (.int x1), some (.int 0)]) dX11_hasOf_6 (by decide) rfl rfl ?_
  exact wp_mask [true, false, true, true, true, true] rfl h
abbrev P_X11_duel_61 (G : Glob) (x2 : Int32) (x3 : Int32) (x4 : Int32) (x5 : Int32) (M : Mem) (Q : Option Value → Mem → Prop) : Prop := Wp G 6 Y_X11_duel 61 [some (.ref (ad G 71)), none, some (.int x2), some (.int x3), some (.int x4), some (.int x5), none, none, none] [] M Q
abbrev P_X11_duel_69 (G : Glob) (x2 : Int32) (x3 : Int32) (x4 : Int32) (x5 : Int32) (x6 : Int32) (M : Mem) (Q : Option Value → Mem → Prop) : Prop := Wp G 6 Y_X11_duel 69 [some (.ref (ad G 71)), none, some (.int x2), some (.int x3), some (.int x4), some (.int x5), some (.int x6), none, none] [] M Q
set_option maxRecDepth 20000 in
theorem v_X11_duel_61 {G : Glob} {x2 : Int32} {x3 : Int32} {x4 : Int32} {x5 : Int32} {M : Mem} {Q : Option Value → Mem → Prop}  (h : ((x5 < 0 → (vp_in 0 6561 ∧ Q (some (.int ((M.1 94 (0 : Int32).toNatClampNeg) + 100))) M)) ∧ (¬ x5 < 0 → P_X11_duel_69 G x2 x3 x4 x5 0 M Q))) : P_X11_duel_61 G x2 x3 x4 x5 M Q := by
  refine wp_iload dX11_duel_61 rfl ?_
  refine wp_if_lt (tgt := 182) dX11_duel_63 (by decide) (fun c1 => ?_) (fun c1 => ?_)
  · replace h := h.1 c1
    refine wp_aload_n dX11_duel_182 rfl rfl ?_
    refine wp_getR (b := 94) dX11_duel_183 rfl rfl fb_11_35 m_4_190 ?_
    refine wp_iconst (v := 0) dX11_duel_186 (by decide) ?_
    obtain ⟨b2, h⟩ := h
    refine wp_iald (n := 6561) dX11_duel_187 rfl rfl b2 ?_
    refine wp_bipush (v := 100) dX11_duel_188 (by decide) ?_
    refine wp_iadd dX11_duel_190 ?_
    exact wp_iret (ty := .int) dX11_duel_191 rfl rfl h
  · replace h := h.2 c1
    refine wp_iconst (v := 0) dX11_duel_66 (by decide) ?_
    refine wp_istore (ls' := [some (.ref (ad G 71)), none, some (.int x2), some (.int x3), some (.int x4), some (.int x5), some (.int 0), none, none]) dX11_duel_67 (by decide) rfl rfl ?_
    exact h
set_option maxRecDepth 20000 in
theorem v_X11_duel_69 {G : Glob} {x2 : Int32} {x3 : Int32} {x4 : Int32} {x5 : Int32} {x6 : Int32} {M : Mem} {Q : Option Value → Mem → Prop}  (h : ((x6 < x4 → (WpM G 1 Y_X11_hasOf [.ref (ad G 71), .int x6, .int 0] M (RI (fun r3 M2 => (WpM G 1 Y_X11_all [.ref (ad G 71)] M2 (RI (fun r5 M4 => (∀ y6 : Int32, y6 = (r5 &&& (r3 ^^^ (-1 : Int32))) → (WpM G 1 Y_X11_manyOf [.int y6] M4 (RI (fun r8 M7 => ((r8 = x5 → (((y6 &&& (x2 ^^^ (-1 : Int32))) = 0 → ((x5 = x3 → (WpM G 1 Y_X11_hasOf [.ref (ad G 71), .int x6, .int 1] M7 (RI (fun r17 M16 => (vp_in r17 256 ∧ (WpM G 1 Y_X11_hasOf [.ref (ad G 71), .int x6, .int 2] M16 (RI (fun r20 M19 => (vp_in r20 256 ∧ (vp_in x6 6561 ∧ (∀ M23 : Mem, M23 = upI M19 94 (x6.toNatClampNeg) ((M16.1 91 r17.toNatClampNeg) - (M19.1 91 r20.toNatClampNeg)) → P_X11_duel_69 G x2 x3 x4 x5 (x6 + 1) M23 Q))))))))))) ∧ (¬ x5 = x3 → (WpM G 2 Y_X11_bestTurn [.ref (ad G 71), .int x6, .int (x2 &&& r3), .int (x5 - x5 / 2 * 2)] M7 (RI (fun r13 M12 => (vp_in x6 6561 ∧ (∀ M15 : Mem, M15 = upI M12 94 (x6.toNatClampNeg) r13 → P_X11_duel_69 G x2 x3 x4 x5 (x6 + 1) M15 Q)))))))) ∧ (¬ (y6 &&& (x2 ^^^ (-1 : Int32))) = 0 → P_X11_duel_69 G x2 x3 x4 x5 (x6 + 1) M7 Q))) ∧ (¬ r8 = x5 → P_X11_duel_69 G x2 x3 x4 x5 (x6 + 1) M7 Q))))))))))))) ∧ (¬ x6 < x4 → P_X11_duel_61 G x2 x3 x4 (x5 + (-1 : Int32)) M Q))) : P_X11_duel_69 G x2 x3 x4 x5 x6 M Q := by
  refine wp_iload dX11_duel_69 rfl ?_
  refine wp_iload dX11_duel_71 rfl ?_
  refine wp_icmp_ge (tgt := 176) dX11_duel_73 (by decide) (fun c1 => ?_) (fun c1 => ?_)
  · replace h := h.2 c1
    refine wp_iinc (v := (x5 + (-1 : Int32))) (ls' := [some (.ref (ad G 71)), none, some (.int x2), some (.int x3), some (.int x4), some (.int (x5 + (-1 : Int32))), some (.int x6), none, none]) dX11_duel_176 rfl rfl (by decide) rfl rfl ?_
    refine wp_goto (tgt := 61) dX11_duel_179 (by decide) ?_
    exact wp_mask [true, false, true, true, true, true, false, false, false] rfl h
  · replace h := h.1 c1
    refine wp_aload_n dX11_duel_76 rfl rfl ?_
    refine wp_iload dX11_duel_77 rfl ?_
    refine wp_iconst (v := 0) dX11_duel_79 (by decide) ?_
    refine wp_callVI (a := 71) (d1 := 1) (As := [.int x6, .int 0]) (st := []) dX11_duel_80 rfl cm_X11_hasOf m_6_56 (by decide) rfl (Nat.le_of_ble_eq_true rfl) rfl h ?_
    intro r3 M2 h
    refine wp_istore (ls' := [some (.ref (ad G 71)), none, some (.int x2), some (.int x3), some (.int x4), some (.int x5), some (.int x6), some (.int r3), none]) dX11_duel_83 (by decide) rfl rfl ?_
    refine wp_aload_n dX11_duel_85 rfl rfl ?_
    refine wp_callVI (a := 71) (d1 := 1) (As := []) (st := []) dX11_duel_86 rfl cm_X11_all m_5_206 (by decide) rfl (Nat.le_of_ble_eq_true rfl) rfl h ?_
    intro r5 M4 h
    refine wp_iload dX11_duel_89 rfl ?_
    refine wp_iconst (v := (-1 : Int32)) dX11_duel_91 (by decide) ?_
    refine wp_ixor dX11_duel_92 ?_
    refine wp_iand dX11_duel_93 ?_
    refine wp_topI (fun y6 hy6 => ?_)
    replace h := h y6 hy6
    refine wp_istore (ls' := [some (.ref (ad G 71)), none, some (.int x2), some (.int x3), some (.int x4), some (.int x5), some (.int x6), some (.int r3), some (.int y6)]) dX11_duel_94 (by decide) rfl rfl ?_
    refine wp_iload dX11_duel_96 rfl ?_
    refine wp_callSI (d1 := 1) (As := [.int y6]) (st := []) dX11_duel_98 cm_X11_manyOf m_5_179 (by decide) rfl (Nat.le_of_ble_eq_true rfl) rfl h ?_
    intro r8 M7 h
    refine wp_iload dX11_duel_101 rfl ?_
    refine wp_icmp_ne (tgt := 170) dX11_duel_103 (by decide) (fun c9 => ?_) (fun c9 => ?_)
    · replace h := h.2 c9
      refine wp_iinc (v := (x6 + 1)) (ls' := [some (.ref (ad G 71)), none, some (.int x2), some (.int x3), some (.int x4), some (.int x5), some (.int (x6 + 1)), some (.int r3), some (.int y6)]) dX11_duel_170 rfl rfl (by decide) rfl rfl ?_
      refine wp_goto (tgt := 69) dX11_duel_173 (by decide) ?_
      exact wp_mask [true, false, true, true, true, true, true, false, false] rfl h
    · replace h := h.1 c9
      refine wp_iload dX11_duel_106 rfl ?_
      refine wp_iload_n dX11_duel_108 rfl rfl ?_
      refine wp_iconst (v := (-1 : Int32)) dX11_duel_109 (by decide) ?_
      refine wp_ixor dX11_duel_110 ?_
      refine wp_iand dX11_duel_111 ?_
      refine wp_if_ne (tgt := 170) dX11_duel_112 (by decide) (fun c10 => ?_) (fun c10 => ?_)
      · replace h := h.2 c10
        refine wp_iinc (v := (x6 + 1)) (ls' := [some (.ref (ad G 71)), none, some (.int x2), some (.int x3), some (.int x4), some (.int x5), some (.int (x6 + 1)), some (.int r3), some (.int y6)]) dX11_duel_170 rfl rfl (by decide) rfl rfl ?_
        refine wp_goto (tgt := 69) dX11_duel_173 (by decide) ?_
        exact wp_mask [true, false, true, true, true, true, true, false, false] rfl h
      · replace h := h.1 c10
        refine wp_aload_n dX11_duel_115 rfl rfl ?_
        refine wp_getR (b := 94) dX11_duel_116 rfl rfl fb_11_35 m_4_190 ?_
        refine wp_iload dX11_duel_119 rfl ?_
        refine wp_iload dX11_duel_121 rfl ?_
        refine wp_iload_n dX11_duel_123 rfl rfl ?_
        refine wp_icmp_ne (tgt := 155) dX11_duel_124 (by decide) (fun c11 => ?_) (fun c11 => ?_)
        · replace h := h.2 c11
          refine wp_aload_n dX11_duel_155 rfl rfl ?_
          refine wp_iload dX11_duel_156 rfl ?_
          refine wp_iload_n dX11_duel_158 rfl rfl ?_
          refine wp_iload dX11_duel_159 rfl ?_
          refine wp_iand dX11_duel_161 ?_
          refine wp_iload dX11_duel_162 rfl ?_
          refine wp_iconst (v := 2) dX11_duel_164 (by decide) ?_
          refine wp_irem dX11_duel_165 (by decide) ?_
          refine wp_callVI (a := 71) (d1 := 2) (As := [.int x6, .int (x2 &&& r3), .int (x5 - x5 / 2 * 2)]) (st := [.int x6, .ref (ad G 94)]) dX11_duel_166 rfl cm_X11_bestTurn m_6_60 (by decide) rfl (Nat.le_of_ble_eq_true rfl) rfl h ?_
          intro r13 M12 h
          obtain ⟨b14, h⟩ := h
          refine wp_iast (n := 6561) dX11_duel_169 rfl rfl b14 ?_
          refine wp_topM (fun M15 hM15 => ?_)
          replace h := h M15 hM15
          refine wp_iinc (v := (x6 + 1)) (ls' := [some (.ref (ad G 71)), none, some (.int x2), some (.int x3), some (.int x4), some (.int x5), some (.int (x6 + 1)), some (.int r3), some (.int y6)]) dX11_duel_170 rfl rfl (by decide) rfl rfl ?_
          refine wp_goto (tgt := 69) dX11_duel_173 (by decide) ?_
          exact wp_mask [true, false, true, true, true, true, true, false, false] rfl h
        · replace h := h.1 c11
          refine wp_aload_n dX11_duel_127 rfl rfl ?_
          refine wp_getR (b := 91) dX11_duel_128 rfl rfl fb_11_31 m_4_186 ?_
          refine wp_aload_n dX11_duel_131 rfl rfl ?_
          refine wp_iload dX11_duel_132 rfl ?_
          refine wp_iconst (v := 1) dX11_duel_134 (by decide) ?_
          refine wp_callVI (a := 71) (d1 := 1) (As := [.int x6, .int 1]) (st := [.ref (ad G 91), .int x6, .ref (ad G 94)]) dX11_duel_135 rfl cm_X11_hasOf m_6_56 (by decide) rfl (Nat.le_of_ble_eq_true rfl) rfl h ?_
          intro r17 M16 h
          obtain ⟨b18, h⟩ := h
          refine wp_iald (n := 256) dX11_duel_138 rfl rfl b18 ?_
          refine wp_aload_n dX11_duel_139 rfl rfl ?_
          refine wp_getR (b := 91) dX11_duel_140 rfl rfl fb_11_31 m_4_186 ?_
          refine wp_aload_n dX11_duel_143 rfl rfl ?_
          refine wp_iload dX11_duel_144 rfl ?_
          refine wp_iconst (v := 2) dX11_duel_146 (by decide) ?_
          refine wp_callVI (a := 71) (d1 := 1) (As := [.int x6, .int 2]) (st := [.ref (ad G 91), .int (M16.1 91 r17.toNatClampNeg), .int x6, .ref (ad G 94)]) dX11_duel_147 rfl cm_X11_hasOf m_6_56 (by decide) rfl (Nat.le_of_ble_eq_true rfl) rfl h ?_
          intro r20 M19 h
          obtain ⟨b21, h⟩ := h
          refine wp_iald (n := 256) dX11_duel_150 rfl rfl b21 ?_
          refine wp_isub dX11_duel_151 ?_
          refine wp_goto (tgt := 169) dX11_duel_152 (by decide) ?_
          obtain ⟨b22, h⟩ := h
          refine wp_iast (n := 6561) dX11_duel_169 rfl rfl b22 ?_
          refine wp_topM (fun M23 hM23 => ?_)
          replace h := h M23 hM23
          refine wp_iinc (v := (x6 + 1)) (ls' := [some (.ref (ad G 71)), none, some (.int x2), some (.int x3), some (.int x4), some (.int x5), some (.int (x6 + 1)), some (.int r3), some (.int y6)]) dX11_duel_170 rfl rfl (by decide) rfl rfl ?_
          refine wp_goto (tgt := 69) dX11_duel_173 (by decide) ?_
          exact wp_mask [true, false, true, true, true, true, true, false, false] rfl h
abbrev C_X11_duel (G : Glob) (x1 : Int32) (M : Mem) (Q : Option Value → Mem → Prop) : Prop := WpM G 6 Y_X11_duel [.ref (ad G 71), .int x1] M Q
set_option maxRecDepth 20000 in
theorem v_X11_duel {G : Glob} {x1 : Int32} {M : Mem} {Q : Option Value → Mem → Prop}  (h : (WpM G 1 Y_X11_in [.int x1, .int 0, .int 6] M (RI (fun r2 M1 => ((r2 = 0 → Q (some (.int (-1 : Int32))) M1) ∧ (¬ r2 = 0 → (((M1.1 71 20) = 0 → Q (some (.int (-4 : Int32))) M1) ∧ (¬ (M1.1 71 20) = 0 → (WpM G 5 Y_X11_measure [.ref (ad G 71)] M1 (RV (fun M5 => (WpM G 1 Y_X11_setIn [.ref (ad G 71), .int 0] M5 (RI (fun r7 M6 => (WpM G 1 Y_X11_manyOf [.int r7] M6 (RI (fun r9 M8 => ((r9 < x1 → (WpM G 1 Y_X11_manyOf [.int r7] M8 (RI (fun r14 M13 => (WpM G 1 Y_X11_unitOf [.int (M13.1 71 20)] M13 (RI (fun r16 M15 => P_X11_duel_61 G r7 r14 r16 r14 M15 Q))))))) ∧ (¬ r9 < x1 → (WpM G 1 Y_X11_unitOf [.int (M8.1 71 20)] M8 (RI (fun r12 M11 => P_X11_duel_61 G r7 x1 r12 x1 M11 Q)))))))))))))))))))))) : C_X11_duel G x1 M Q := by
  refine wp_enter (ls0 := [some (.ref (ad G 71)), some (.int x1), none, none, none, none, none, none, none]) (by decide +kernel) (Nat.le_of_ble_eq_true rfl) rfl ?_
  refine wp_iload_n dX11_duel_0 rfl rfl ?_
  refine wp_iconst (v := 0) dX11_duel_1 (by decide) ?_
  refine wp_bipush (v := 6) dX11_duel_2 (by decide) ?_
  refine wp_callSI (d1 := 1) (As := [.int x1, .int 0, .int 6]) (st := []) dX11_duel_4 cm_X11_in m_5_32 (by decide) rfl (Nat.le_of_ble_eq_true rfl) rfl h ?_
  intro r2 M1 h
  refine wp_if_ne (tgt := 12) dX11_duel_7 (by decide) (fun c3 => ?_) (fun c3 => ?_)
  · replace h := h.2 c3
    refine wp_aload_n dX11_duel_12 rfl rfl ?_
    refine wp_getI dX11_duel_13 rfl fb_11_20 m_4_175 ?_
    refine wp_if_ne (tgt := 22) dX11_duel_16 (by decide) (fun c4 => ?_) (fun c4 => ?_)
    · replace h := h.2 c4
      refine wp_aload_n dX11_duel_22 rfl rfl ?_
      refine wp_callVV (a := 71) (d1 := 5) (As := []) (st := []) dX11_duel_23 rfl cm_X11_measure m_5_210 (by decide) rfl (Nat.le_of_ble_eq_true rfl) rfl h ?_
      intro M5 h
      refine wp_aload_n dX11_duel_26 rfl rfl ?_
      refine wp_iconst (v := 0) dX11_duel_27 (by decide) ?_
      refine wp_callVI (a := 71) (d1 := 1) (As := [.int 0]) (st := []) dX11_duel_28 rfl cm_X11_setIn m_5_175 (by decide) rfl (Nat.le_of_ble_eq_true rfl) rfl h ?_
      intro r7 M6 h
      refine wp_istore_n (ls' := [some (.ref (ad G 71)), some (.int x1), some (.int r7), none, none, none, none, none, none]) dX11_duel_31 rfl (by decide) rfl rfl ?_
      refine wp_iload_n dX11_duel_32 rfl rfl ?_
      refine wp_callSI (d1 := 1) (As := [.int r7]) (st := []) dX11_duel_33 cm_X11_manyOf m_5_179 (by decide) rfl (Nat.le_of_ble_eq_true rfl) rfl h ?_
      intro r9 M8 h
      refine wp_iload_n dX11_duel_36 rfl rfl ?_
      refine wp_icmp_ge (tgt := 47) dX11_duel_37 (by decide) (fun c10 => ?_) (fun c10 => ?_)
      · replace h := h.2 c10
        refine wp_iload_n dX11_duel_47 rfl rfl ?_
        refine wp_istore_n (ls' := [some (.ref (ad G 71)), some (.int x1), some (.int r7), some (.int x1), none, none, none, none, none]) dX11_duel_48 rfl (by decide) rfl rfl ?_
        refine wp_aload_n dX11_duel_49 rfl rfl ?_
        refine wp_getI dX11_duel_50 rfl fb_11_20 m_4_175 ?_
        refine wp_callSI (d1 := 1) (As := [.int (M8.1 71 20)]) (st := []) dX11_duel_53 cm_X11_unitOf m_6_53 (by decide) rfl (Nat.le_of_ble_eq_true rfl) rfl h ?_
        intro r12 M11 h
        refine wp_istore (ls' := [some (.ref (ad G 71)), some (.int x1), some (.int r7), some (.int x1), some (.int r12), none, none, none, none]) dX11_duel_56 (by decide) rfl rfl ?_
        refine wp_iload_n dX11_duel_58 rfl rfl ?_
        refine wp_istore (ls' := [some (.ref (ad G 71)), some (.int x1), some (.int r7), some (.int x1), some (.int r12), some (.int x1), none, none, none]) dX11_duel_59 (by decide) rfl rfl ?_
        exact wp_mask [true, false, true, true, true, true, false, false, false] rfl h
      · replace h := h.1 c10
        refine wp_iload_n dX11_duel_40 rfl rfl ?_
        refine wp_callSI (d1 := 1) (As := [.int r7]) (st := []) dX11_duel_41 cm_X11_manyOf m_5_179 (by decide) rfl (Nat.le_of_ble_eq_true rfl) rfl h ?_
        intro r14 M13 h
        refine wp_goto (tgt := 48) dX11_duel_44 (by decide) ?_
        refine wp_istore_n (ls' := [some (.ref (ad G 71)), some (.int x1), some (.int r7), some (.int r14), none, none, none, none, none]) dX11_duel_48 rfl (by decide) rfl rfl ?_
        refine wp_aload_n dX11_duel_49 rfl rfl ?_
        refine wp_getI dX11_duel_50 rfl fb_11_20 m_4_175 ?_
        refine wp_callSI (d1 := 1) (As := [.int (M13.1 71 20)]) (st := []) dX11_duel_53 cm_X11_unitOf m_6_53 (by decide) rfl (Nat.le_of_ble_eq_true rfl) rfl h ?_
        intro r16 M15 h
        refine wp_istore (ls' := [some (.ref (ad G 71)), some (.int x1), some (.int r7), some (.int r14), some (.int r16), none, none, none, none]) dX11_duel_56 (by decide) rfl rfl ?_
        refine wp_iload_n dX11_duel_58 rfl rfl ?_
        refine wp_istore (ls' := [some (.ref (ad G 71)), some (.int x1), some (.int r7), some (.int r14), some (.int r16), some (.int r14), none, none, none]) dX11_duel_59 (by decide) rfl rfl ?_
        exact wp_mask [true, false, true, true, true, true, false, false, false] rfl h
    · replace h := h.1 c4
      refine wp_bipush (v := (-4 : Int32)) dX11_duel_19 (by decide) ?_
      exact wp_iret (ty := .int) dX11_duel_21 rfl rfl h
  · replace h := h.1 c3
    refine wp_iconst (v := (-1 : Int32)) dX11_duel_10 (by decide) ?_
    exact wp_iret (ty := .int) dX11_duel_11 rfl rfl h
abbrev P_X11_bestTurn_9 (G : Glob) (x1 : Int32) (x2 : Int32) (x3 : Int32) (x4 : Int32) (x5 : Int32) (x6 : Int32) (M : Mem) (Q : Option Value → Mem → Prop) : Prop := Wp G 2 Y_X11_bestTurn 9 [some (.ref (ad G 71)), some (.int x1), some (.int x2), some (.int x3), some (.int x4), some (.int x5), some (.int x6), none] [] M Q
set_option maxRecDepth 20000 in
theorem v_X11_bestTurn_9 {G : Glob} {x1 : Int32} {x2 : Int32} {x3 : Int32} {x4 : Int32} {x5 : Int32} {x6 : Int32} {M : Mem} {Q : Option Value → Mem → Prop}  (h : ((x6 < (M.1 71 20) → ((((x2 >>> (x6 &&& 31)) &&& 1) = 1 → (WpM G 1 Y_X11_unitOf [.int x6] M (RI (fun r4 M3 => (vp_in (x1 + ((1 + x3) * r4)) 6561 ∧ (∀ y6 : Int32, y6 = (M3.1 94 (x1 + ((1 + x3) * r4)).toNatClampNeg) → ((x5 = 0 → P_X11_bestTurn_9 G x1 x2 x3 y6 1 (x6 + 1) M3 Q) ∧ (¬ x5 = 0 → ((x3 = 0 → ((x4 < y6 → P_X11_bestTurn_9 G x1 x2 x3 y6 1 (x6 + 1) M3 Q) ∧ (¬ x4 < y6 → P_X11_bestTurn_9 G x1 x2 x3 x4 1 (x6 + 1) M3 Q))) ∧ (¬ x3 = 0 → ((y6 < x4 → P_X11_bestTurn_9 G x1 x2 x3 y6 1 (x6 + 1) M3 Q) ∧ (¬ y6 < x4 → P_X11_bestTurn_9 G x1 x2 x3 x4 1 (x6 + 1) M3 Q)))))))))))) ∧ (¬ ((x2 >>> (x6 &&& 31)) &&& 1) = 1 → P_X11_bestTurn_9 G x1 x2 x3 x4 x5 (x6 + 1) M Q))) ∧ (¬ x6 < (M.1 71 20) → Q (some (.int x4)) M))) : P_X11_bestTurn_9 G x1 x2 x3 x4 x5 x6 M Q := by
  refine wp_iload dX11_bestTurn_9 rfl ?_
  refine wp_aload_n dX11_bestTurn_11 rfl rfl ?_
  refine wp_getI dX11_bestTurn_12 rfl fb_11_20 m_4_175 ?_
  refine wp_icmp_ge (tgt := 90) dX11_bestTurn_15 (by decide) (fun c1 => ?_) (fun c1 => ?_)
  · replace h := h.2 c1
    refine wp_iload dX11_bestTurn_90 rfl ?_
    exact wp_iret (ty := .int) dX11_bestTurn_92 rfl rfl h
  · replace h := h.1 c1
    refine wp_iload_n dX11_bestTurn_18 rfl rfl ?_
    refine wp_iload dX11_bestTurn_19 rfl ?_
    refine wp_ishr dX11_bestTurn_21 ?_
    refine wp_iconst (v := 1) dX11_bestTurn_22 (by decide) ?_
    refine wp_iand dX11_bestTurn_23 ?_
    refine wp_iconst (v := 1) dX11_bestTurn_24 (by decide) ?_
    refine wp_icmp_ne (tgt := 84) dX11_bestTurn_25 (by decide) (fun c2 => ?_) (fun c2 => ?_)
    · replace h := h.2 c2
      refine wp_iinc (v := (x6 + 1)) (ls' := [some (.ref (ad G 71)), some (.int x1), some (.int x2), some (.int x3), some (.int x4), some (.int x5), some (.int (x6 + 1)), none]) dX11_bestTurn_84 rfl rfl (by decide) rfl rfl ?_
      refine wp_goto (tgt := 9) dX11_bestTurn_87 (by decide) ?_
      exact h
    · replace h := h.1 c2
      refine wp_aload_n dX11_bestTurn_28 rfl rfl ?_
      refine wp_getR (b := 94) dX11_bestTurn_29 rfl rfl fb_11_35 m_4_190 ?_
      refine wp_iload_n dX11_bestTurn_32 rfl rfl ?_
      refine wp_iconst (v := 1) dX11_bestTurn_33 (by decide) ?_
      refine wp_iload_n dX11_bestTurn_34 rfl rfl ?_
      refine wp_iadd dX11_bestTurn_35 ?_
      refine wp_iload dX11_bestTurn_36 rfl ?_
      refine wp_callSI (d1 := 1) (As := [.int x6]) (st := [.int (1 + x3), .int x1, .ref (ad G 94)]) dX11_bestTurn_38 cm_X11_unitOf m_6_53 (by decide) rfl (Nat.le_of_ble_eq_true rfl) rfl h ?_
      intro r4 M3 h
      refine wp_imul dX11_bestTurn_41 ?_
      refine wp_iadd dX11_bestTurn_42 ?_
      obtain ⟨b5, h⟩ := h
      refine wp_iald (n := 6561) dX11_bestTurn_43 rfl rfl b5 ?_
      refine wp_topI (fun y6 hy6 => ?_)
      replace h := h y6 hy6
      refine wp_istore (ls' := [some (.ref (ad G 71)), some (.int x1), some (.int x2), some (.int x3), some (.int x4), some (.int x5), some (.int x6), some (.int y6)]) dX11_bestTurn_44 (by decide) rfl rfl ?_
      refine wp_iload dX11_bestTurn_46 rfl ?_
      refine wp_if_eq (tgt := 72) dX11_bestTurn_48 (by decide) (fun c7 => ?_) (fun c7 => ?_)
      · replace h := h.1 c7
        refine wp_iload dX11_bestTurn_72 rfl ?_
        refine wp_goto (tgt := 79) dX11_bestTurn_74 (by decide) ?_
        refine wp_istore (ls' := [some (.ref (ad G 71)), some (.int x1), some (.int x2), some (.int x3), some (.int y6), some (.int x5), some (.int x6), some (.int y6)]) dX11_bestTurn_79 (by decide) rfl rfl ?_
        refine wp_iconst (v := 1) dX11_bestTurn_81 (by decide) ?_
        refine wp_istore (ls' := [some (.ref (ad G 71)), some (.int x1), some (.int x2), some (.int x3), some (.int y6), some (.int 1), some (.int x6), some (.int y6)]) dX11_bestTurn_82 (by decide) rfl rfl ?_
        refine wp_iinc (v := (x6 + 1)) (ls' := [some (.ref (ad G 71)), some (.int x1), some (.int x2), some (.int x3), some (.int y6), some (.int 1), some (.int (x6 + 1)), some (.int y6)]) dX11_bestTurn_84 rfl rfl (by decide) rfl rfl ?_
        refine wp_goto (tgt := 9) dX11_bestTurn_87 (by decide) ?_
        exact wp_mask [true, true, true, true, true, true, true, false] rfl h
      · replace h := h.2 c7
        refine wp_iload_n dX11_bestTurn_51 rfl rfl ?_
        refine wp_if_ne (tgt := 65) dX11_bestTurn_52 (by decide) (fun c8 => ?_) (fun c8 => ?_)
        · replace h := h.2 c8
          refine wp_iload dX11_bestTurn_65 rfl ?_
          refine wp_iload dX11_bestTurn_67 rfl ?_
          refine wp_icmp_ge (tgt := 77) dX11_bestTurn_69 (by decide) (fun c9 => ?_) (fun c9 => ?_)
          · replace h := h.2 c9
            refine wp_iload dX11_bestTurn_77 rfl ?_
            refine wp_istore (ls' := [some (.ref (ad G 71)), some (.int x1), some (.int x2), some (.int x3), some (.int x4), some (.int x5), some (.int x6), some (.int y6)]) dX11_bestTurn_79 (by decide) rfl rfl ?_
            refine wp_iconst (v := 1) dX11_bestTurn_81 (by decide) ?_
            refine wp_istore (ls' := [some (.ref (ad G 71)), some (.int x1), some (.int x2), some (.int x3), some (.int x4), some (.int 1), some (.int x6), some (.int y6)]) dX11_bestTurn_82 (by decide) rfl rfl ?_
            refine wp_iinc (v := (x6 + 1)) (ls' := [some (.ref (ad G 71)), some (.int x1), some (.int x2), some (.int x3), some (.int x4), some (.int 1), some (.int (x6 + 1)), some (.int y6)]) dX11_bestTurn_84 rfl rfl (by decide) rfl rfl ?_
            refine wp_goto (tgt := 9) dX11_bestTurn_87 (by decide) ?_
            exact wp_mask [true, true, true, true, true, true, true, false] rfl h
          · replace h := h.1 c9
            refine wp_iload dX11_bestTurn_72 rfl ?_
            refine wp_goto (tgt := 79) dX11_bestTurn_74 (by decide) ?_
            refine wp_istore (ls' := [some (.ref (ad G 71)), some (.int x1), some (.int x2), some (.int x3), some (.int y6), some (.int x5), some (.int x6), some (.int y6)]) dX11_bestTurn_79 (by decide) rfl rfl ?_
            refine wp_iconst (v := 1) dX11_bestTurn_81 (by decide) ?_
            refine wp_istore (ls' := [some (.ref (ad G 71)), some (.int x1), some (.int x2), some (.int x3), some (.int y6), some (.int 1), some (.int x6), some (.int y6)]) dX11_bestTurn_82 (by decide) rfl rfl ?_
            refine wp_iinc (v := (x6 + 1)) (ls' := [some (.ref (ad G 71)), some (.int x1), some (.int x2), some (.int x3), some (.int y6), some (.int 1), some (.int (x6 + 1)), some (.int y6)]) dX11_bestTurn_84 rfl rfl (by decide) rfl rfl ?_
            refine wp_goto (tgt := 9) dX11_bestTurn_87 (by decide) ?_
            exact wp_mask [true, true, true, true, true, true, true, false] rfl h
        · replace h := h.1 c8
          refine wp_iload dX11_bestTurn_55 rfl ?_
          refine wp_iload dX11_bestTurn_57 rfl ?_
          refine wp_icmp_le (tgt := 77) dX11_bestTurn_59 (by decide) (fun c10 => ?_) (fun c10 => ?_)
          · replace h := h.2 c10
            refine wp_iload dX11_bestTurn_77 rfl ?_
            refine wp_istore (ls' := [some (.ref (ad G 71)), some (.int x1), some (.int x2), some (.int x3), some (.int x4), some (.int x5), some (.int x6), some (.int y6)]) dX11_bestTurn_79 (by decide) rfl rfl ?_
            refine wp_iconst (v := 1) dX11_bestTurn_81 (by decide) ?_
            refine wp_istore (ls' := [some (.ref (ad G 71)), some (.int x1), some (.int x2), some (.int x3), some (.int x4), some (.int 1), some (.int x6), some (.int y6)]) dX11_bestTurn_82 (by decide) rfl rfl ?_
            refine wp_iinc (v := (x6 + 1)) (ls' := [some (.ref (ad G 71)), some (.int x1), some (.int x2), some (.int x3), some (.int x4), some (.int 1), some (.int (x6 + 1)), some (.int y6)]) dX11_bestTurn_84 rfl rfl (by decide) rfl rfl ?_
            refine wp_goto (tgt := 9) dX11_bestTurn_87 (by decide) ?_
            exact wp_mask [true, true, true, true, true, true, true, false] rfl h
          · replace h := h.1 c10
            refine wp_goto (tgt := 72) dX11_bestTurn_62 (by decide) ?_
            refine wp_iload dX11_bestTurn_72 rfl ?_
            refine wp_goto (tgt := 79) dX11_bestTurn_74 (by decide) ?_
            refine wp_istore (ls' := [some (.ref (ad G 71)), some (.int x1), some (.int x2), some (.int x3), some (.int y6), some (.int x5), some (.int x6), some (.int y6)]) dX11_bestTurn_79 (by decide) rfl rfl ?_
            refine wp_iconst (v := 1) dX11_bestTurn_81 (by decide) ?_
            refine wp_istore (ls' := [some (.ref (ad G 71)), some (.int x1), some (.int x2), some (.int x3), some (.int y6), some (.int 1), some (.int x6), some (.int y6)]) dX11_bestTurn_82 (by decide) rfl rfl ?_
            refine wp_iinc (v := (x6 + 1)) (ls' := [some (.ref (ad G 71)), some (.int x1), some (.int x2), some (.int x3), some (.int y6), some (.int 1), some (.int (x6 + 1)), some (.int y6)]) dX11_bestTurn_84 rfl rfl (by decide) rfl rfl ?_
            refine wp_goto (tgt := 9) dX11_bestTurn_87 (by decide) ?_
            exact wp_mask [true, true, true, true, true, true, true, false] rfl h
abbrev C_X11_bestTurn (G : Glob) (x1 : Int32) (x2 : Int32) (x3 : Int32) (M : Mem) (Q : Option Value → Mem → Prop) : Prop := WpM G 2 Y_X11_bestTurn [.ref (ad G 71), .int x1, .int x2, .int x3] M Q
set_option maxRecDepth 20000 in
theorem v_X11_bestTurn {G : Glob} {x1 : Int32} {x2 : Int32} {x3 : Int32} {M : Mem} {Q : Option Value → Mem → Prop}  (h : P_X11_bestTurn_9 G x1 x2 x3 0 0 0 M Q) : C_X11_bestTurn G x1 x2 x3 M Q := by
  refine wp_enter (ls0 := [some (.ref (ad G 71)), some (.int x1), some (.int x2), some (.int x3), none, none, none, none]) (by decide +kernel) (Nat.le_of_ble_eq_true rfl) rfl ?_
  refine wp_iconst (v := 0) dX11_bestTurn_0 (by decide) ?_
  refine wp_istore (ls' := [some (.ref (ad G 71)), some (.int x1), some (.int x2), some (.int x3), some (.int 0), none, none, none]) dX11_bestTurn_1 (by decide) rfl rfl ?_
  refine wp_iconst (v := 0) dX11_bestTurn_3 (by decide) ?_
  refine wp_istore (ls' := [some (.ref (ad G 71)), some (.int x1), some (.int x2), some (.int x3), some (.int 0), some (.int 0), none, none]) dX11_bestTurn_4 (by decide) rfl rfl ?_
  refine wp_iconst (v := 0) dX11_bestTurn_6 (by decide) ?_
  refine wp_istore (ls' := [some (.ref (ad G 71)), some (.int x1), some (.int x2), some (.int x3), some (.int 0), some (.int 0), some (.int 0), none]) dX11_bestTurn_7 (by decide) rfl rfl ?_
  exact h
abbrev C_X11_areOf (G : Glob) (x0 : Int32) (x1 : Int32) (M : Mem) (Q : Option Value → Mem → Prop) : Prop := WpM G 2 Y_X11_areOf [.int x0, .int x1] M Q
set_option maxRecDepth 20000 in
theorem v_X11_areOf {G : Glob} {x0 : Int32} {x1 : Int32} {M : Mem} {Q : Option Value → Mem → Prop}  (h : (WpM G 1 Y_X11_in [.int x0, .int 0, .int 12] M (RI (fun r2 M1 => ((r2 = 0 → Q (some (.int 0)) M1) ∧ (¬ r2 = 0 → (WpM G 1 Y_X11_in [.int x1, .int 0, .int 12] M1 (RI (fun r5 M4 => ((r5 = 0 → Q (some (.int 0)) M4) ∧ (¬ r5 = 0 → Q (some (.int 1)) M4))))))))))) : C_X11_areOf G x0 x1 M Q := by
  refine wp_enter (ls0 := [some (.int x0), some (.int x1)]) (by decide +kernel) (Nat.le_of_ble_eq_true rfl) rfl ?_
  refine wp_iload_n dX11_areOf_0 rfl rfl ?_
  refine wp_iconst (v := 0) dX11_areOf_1 (by decide) ?_
  refine wp_bipush (v := 12) dX11_areOf_2 (by decide) ?_
  refine wp_callSI (d1 := 1) (As := [.int x0, .int 0, .int 12]) (st := []) dX11_areOf_4 cm_X11_in m_5_32 (by decide) rfl (Nat.le_of_ble_eq_true rfl) rfl h ?_
  intro r2 M1 h
  refine wp_if_eq (tgt := 24) dX11_areOf_7 (by decide) (fun c3 => ?_) (fun c3 => ?_)
  · replace h := h.1 c3
    refine wp_iconst (v := 0) dX11_areOf_24 (by decide) ?_
    exact wp_iret (ty := .boolean) dX11_areOf_25 rfl rfl h
  · replace h := h.2 c3
    refine wp_iload_n dX11_areOf_10 rfl rfl ?_
    refine wp_iconst (v := 0) dX11_areOf_11 (by decide) ?_
    refine wp_bipush (v := 12) dX11_areOf_12 (by decide) ?_
    refine wp_callSI (d1 := 1) (As := [.int x1, .int 0, .int 12]) (st := []) dX11_areOf_14 cm_X11_in m_5_32 (by decide) rfl (Nat.le_of_ble_eq_true rfl) rfl h ?_
    intro r5 M4 h
    refine wp_if_eq (tgt := 24) dX11_areOf_17 (by decide) (fun c6 => ?_) (fun c6 => ?_)
    · replace h := h.1 c6
      refine wp_iconst (v := 0) dX11_areOf_24 (by decide) ?_
      exact wp_iret (ty := .boolean) dX11_areOf_25 rfl rfl h
    · replace h := h.2 c6
      refine wp_iconst (v := 1) dX11_areOf_20 (by decide) ?_
      refine wp_goto (tgt := 25) dX11_areOf_21 (by decide) ?_
      exact wp_iret (ty := .boolean) dX11_areOf_25 rfl rfl h
abbrev C_X11_lossOf (G : Glob) (x1 : Int32) (x2 : Int32) (x3 : Int32) (M : Mem) (Q : Option Value → Mem → Prop) : Prop := WpM G 2 Y_X11_lossOf [.ref (ad G 71), .int x1, .int x2, .int x3] M Q
set_option maxRecDepth 20000 in
theorem v_X11_lossOf {G : Glob} {x1 : Int32} {x2 : Int32} {x3 : Int32} {M : Mem} {Q : Option Value → Mem → Prop}  (h : (vp_in x1 8 ∧ (((M.1 82 x1.toNatClampNeg) = 3 → Q (some (.int 0)) M) ∧ (¬ (M.1 82 x1.toNatClampNeg) = 3 → (vp_in x1 8 ∧ (WpM G 1 Y_X11_isOf [.int (M.1 82 x1.toNatClampNeg), .int 2] M (RI (fun r5 M4 => ((r5 = 0 → (vp_in x1 8 ∧ (((M4.1 84 x1.toNatClampNeg) = 0 → Q (some (.int x2)) M4) ∧ (¬ (M4.1 84 x1.toNatClampNeg) = 0 → Q (some (.int x3)) M4)))) ∧ (¬ r5 = 0 → ((x3 < x2 → Q (some (.int x2)) M4) ∧ (¬ x3 < x2 → Q (some (.int x3)) M4)))))))))))) : C_X11_lossOf G x1 x2 x3 M Q := by
  refine wp_enter (ls0 := [some (.ref (ad G 71)), some (.int x1), some (.int x2), some (.int x3)]) (by decide +kernel) (Nat.le_of_ble_eq_true rfl) rfl ?_
  refine wp_aload_n dX11_lossOf_0 rfl rfl ?_
  refine wp_getR (b := 82) dX11_lossOf_1 rfl rfl fb_11_21 m_4_176 ?_
  refine wp_iload_n dX11_lossOf_4 rfl rfl ?_
  obtain ⟨b1, h⟩ := h
  refine wp_iald (n := 8) dX11_lossOf_5 rfl rfl b1 ?_
  refine wp_iconst (v := 3) dX11_lossOf_6 (by decide) ?_
  refine wp_icmp_ne (tgt := 12) dX11_lossOf_7 (by decide) (fun c2 => ?_) (fun c2 => ?_)
  · replace h := h.2 c2
    refine wp_aload_n dX11_lossOf_12 rfl rfl ?_
    refine wp_getR (b := 82) dX11_lossOf_13 rfl rfl fb_11_21 m_4_176 ?_
    refine wp_iload_n dX11_lossOf_16 rfl rfl ?_
    obtain ⟨b3, h⟩ := h
    refine wp_iald (n := 8) dX11_lossOf_17 rfl rfl b3 ?_
    refine wp_iconst (v := 2) dX11_lossOf_18 (by decide) ?_
    refine wp_callSI (d1 := 1) (As := [.int (M.1 82 x1.toNatClampNeg), .int 2]) (st := []) dX11_lossOf_19 cm_X11_isOf m_5_137 (by decide) rfl (Nat.le_of_ble_eq_true rfl) rfl h ?_
    intro r5 M4 h
    refine wp_if_eq (tgt := 38) dX11_lossOf_22 (by decide) (fun c6 => ?_) (fun c6 => ?_)
    · replace h := h.1 c6
      refine wp_aload_n dX11_lossOf_38 rfl rfl ?_
      refine wp_getR (b := 84) dX11_lossOf_39 rfl rfl fb_11_23 m_4_178 ?_
      refine wp_iload_n dX11_lossOf_42 rfl rfl ?_
      obtain ⟨b7, h⟩ := h
      refine wp_iald (n := 8) dX11_lossOf_43 rfl rfl b7 ?_
      refine wp_if_ne (tgt := 51) dX11_lossOf_44 (by decide) (fun c8 => ?_) (fun c8 => ?_)
      · replace h := h.2 c8
        refine wp_iload_n dX11_lossOf_51 rfl rfl ?_
        exact wp_iret (ty := .int) dX11_lossOf_52 rfl rfl h
      · replace h := h.1 c8
        refine wp_iload_n dX11_lossOf_47 rfl rfl ?_
        refine wp_goto (tgt := 52) dX11_lossOf_48 (by decide) ?_
        exact wp_iret (ty := .int) dX11_lossOf_52 rfl rfl h
    · replace h := h.2 c6
      refine wp_iload_n dX11_lossOf_25 rfl rfl ?_
      refine wp_iload_n dX11_lossOf_26 rfl rfl ?_
      refine wp_icmp_le (tgt := 34) dX11_lossOf_27 (by decide) (fun c9 => ?_) (fun c9 => ?_)
      · replace h := h.2 c9
        refine wp_iload_n dX11_lossOf_34 rfl rfl ?_
        refine wp_goto (tgt := 52) dX11_lossOf_35 (by decide) ?_
        exact wp_iret (ty := .int) dX11_lossOf_52 rfl rfl h
      · replace h := h.1 c9
        refine wp_iload_n dX11_lossOf_30 rfl rfl ?_
        refine wp_goto (tgt := 52) dX11_lossOf_31 (by decide) ?_
        exact wp_iret (ty := .int) dX11_lossOf_52 rfl rfl h
  · replace h := h.1 c2
    refine wp_iconst (v := 0) dX11_lossOf_10 (by decide) ?_
    exact wp_iret (ty := .int) dX11_lossOf_11 rfl rfl h
abbrev P_X11_waysOf_6 (G : Glob) (x1 : Int32) (x2 : Int32) (x3 : Int32) (x4 : Int32) (x5 : Int64) (x7 : Int32) (M : Mem) (Q : Option Value → Mem → Prop) : Prop := Wp G 3 Y_X11_waysOf 6 [some (.ref (ad G 71)), some (.int x1), some (.int x2), some (.int x3), some (.int x4), some (.long x5), none, some (.int x7), none] [] M Q
set_option maxRecDepth 20000 in
theorem v_X11_waysOf_6 {G : Glob} {x1 : Int32} {x2 : Int32} {x3 : Int32} {x4 : Int32} {x5 : Int64} {x7 : Int32} {M : Mem} {Q : Option Value → Mem → Prop}  (h : ((x7 < (M.1 71 20) → (WpM G 2 Y_X11_lossOf [.ref (ad G 71), .int x7, .int x3, .int x4] M (RI (fun r3 M2 => ((((x2 >>> (x7 &&& 31)) &&& 1) = 0 → P_X11_waysOf_6 G x1 x2 x3 x4 (x5 * 1) (x7 + 1) M2 Q) ∧ (¬ ((x2 >>> (x7 &&& 31)) &&& 1) = 0 → ((((x1 >>> (x7 &&& 31)) &&& 1) = 1 → P_X11_waysOf_6 G x1 x2 x3 x4 (x5 * (12 - r3).toInt64) (x7 + 1) M2 Q) ∧ (¬ ((x1 >>> (x7 &&& 31)) &&& 1) = 1 → P_X11_waysOf_6 G x1 x2 x3 x4 (x5 * r3.toInt64) (x7 + 1) M2 Q)))))))) ∧ (¬ x7 < (M.1 71 20) → Q (some (.long x5)) M))) : P_X11_waysOf_6 G x1 x2 x3 x4 x5 x7 M Q := by
  refine wp_iload dX11_waysOf_6 rfl ?_
  refine wp_aload_n dX11_waysOf_8 rfl rfl ?_
  refine wp_getI dX11_waysOf_9 rfl fb_11_20 m_4_175 ?_
  refine wp_icmp_ge (tgt := 72) dX11_waysOf_12 (by decide) (fun c1 => ?_) (fun c1 => ?_)
  · replace h := h.2 c1
    refine wp_lload dX11_waysOf_72 rfl ?_
    exact wp_lret dX11_waysOf_74 rfl h
  · replace h := h.1 c1
    refine wp_aload_n dX11_waysOf_15 rfl rfl ?_
    refine wp_iload dX11_waysOf_16 rfl ?_
    refine wp_iload_n dX11_waysOf_18 rfl rfl ?_
    refine wp_iload dX11_waysOf_19 rfl ?_
    refine wp_callVI (a := 71) (d1 := 2) (As := [.int x7, .int x3, .int x4]) (st := []) dX11_waysOf_21 rfl cm_X11_lossOf m_6_75 (by decide) rfl (Nat.le_of_ble_eq_true rfl) rfl h ?_
    intro r3 M2 h
    refine wp_istore (ls' := [some (.ref (ad G 71)), some (.int x1), some (.int x2), some (.int x3), some (.int x4), some (.long x5), none, some (.int x7), some (.int r3)]) dX11_waysOf_24 (by decide) rfl rfl ?_
    refine wp_lload dX11_waysOf_26 rfl ?_
    refine wp_iload_n dX11_waysOf_28 rfl rfl ?_
    refine wp_iload dX11_waysOf_29 rfl ?_
    refine wp_ishr dX11_waysOf_31 ?_
    refine wp_iconst (v := 1) dX11_waysOf_32 (by decide) ?_
    refine wp_iand dX11_waysOf_33 ?_
    refine wp_if_ne (tgt := 41) dX11_waysOf_34 (by decide) (fun c4 => ?_) (fun c4 => ?_)
    · replace h := h.2 c4
      refine wp_iload_n dX11_waysOf_41 rfl rfl ?_
      refine wp_iload dX11_waysOf_42 rfl ?_
      refine wp_ishr dX11_waysOf_44 ?_
      refine wp_iconst (v := 1) dX11_waysOf_45 (by decide) ?_
      refine wp_iand dX11_waysOf_46 ?_
      refine wp_iconst (v := 1) dX11_waysOf_47 (by decide) ?_
      refine wp_icmp_ne (tgt := 60) dX11_waysOf_48 (by decide) (fun c5 => ?_) (fun c5 => ?_)
      · replace h := h.2 c5
        refine wp_iload dX11_waysOf_60 rfl ?_
        refine wp_i2l dX11_waysOf_62 ?_
        refine wp_lmul dX11_waysOf_63 ?_
        refine wp_lstore (ls' := [some (.ref (ad G 71)), some (.int x1), some (.int x2), some (.int x3), some (.int x4), some (.long (x5 * r3.toInt64)), none, some (.int x7), some (.int r3)]) dX11_waysOf_64 (by decide) rfl rfl ?_
        refine wp_iinc (v := (x7 + 1)) (ls' := [some (.ref (ad G 71)), some (.int x1), some (.int x2), some (.int x3), some (.int x4), some (.long (x5 * r3.toInt64)), none, some (.int (x7 + 1)), some (.int r3)]) dX11_waysOf_66 rfl rfl (by decide) rfl rfl ?_
        refine wp_goto (tgt := 6) dX11_waysOf_69 (by decide) ?_
        exact wp_mask [true, true, true, true, true, true, false, true, false] rfl h
      · replace h := h.1 c5
        refine wp_bipush (v := 12) dX11_waysOf_51 (by decide) ?_
        refine wp_iload dX11_waysOf_53 rfl ?_
        refine wp_isub dX11_waysOf_55 ?_
        refine wp_i2l dX11_waysOf_56 ?_
        refine wp_goto (tgt := 63) dX11_waysOf_57 (by decide) ?_
        refine wp_lmul dX11_waysOf_63 ?_
        refine wp_lstore (ls' := [some (.ref (ad G 71)), some (.int x1), some (.int x2), some (.int x3), some (.int x4), some (.long (x5 * (12 - r3).toInt64)), none, some (.int x7), some (.int r3)]) dX11_waysOf_64 (by decide) rfl rfl ?_
        refine wp_iinc (v := (x7 + 1)) (ls' := [some (.ref (ad G 71)), some (.int x1), some (.int x2), some (.int x3), some (.int x4), some (.long (x5 * (12 - r3).toInt64)), none, some (.int (x7 + 1)), some (.int r3)]) dX11_waysOf_66 rfl rfl (by decide) rfl rfl ?_
        refine wp_goto (tgt := 6) dX11_waysOf_69 (by decide) ?_
        exact wp_mask [true, true, true, true, true, true, false, true, false] rfl h
    · replace h := h.1 c4
      refine wp_lconst (v := 1) dX11_waysOf_37 (by decide) ?_
      refine wp_goto (tgt := 63) dX11_waysOf_38 (by decide) ?_
      refine wp_lmul dX11_waysOf_63 ?_
      refine wp_lstore (ls' := [some (.ref (ad G 71)), some (.int x1), some (.int x2), some (.int x3), some (.int x4), some (.long (x5 * 1)), none, some (.int x7), some (.int r3)]) dX11_waysOf_64 (by decide) rfl rfl ?_
      refine wp_iinc (v := (x7 + 1)) (ls' := [some (.ref (ad G 71)), some (.int x1), some (.int x2), some (.int x3), some (.int x4), some (.long (x5 * 1)), none, some (.int (x7 + 1)), some (.int r3)]) dX11_waysOf_66 rfl rfl (by decide) rfl rfl ?_
      refine wp_goto (tgt := 6) dX11_waysOf_69 (by decide) ?_
      exact wp_mask [true, true, true, true, true, true, false, true, false] rfl h
abbrev C_X11_waysOf (G : Glob) (x1 : Int32) (x2 : Int32) (x3 : Int32) (x4 : Int32) (M : Mem) (Q : Option Value → Mem → Prop) : Prop := WpM G 3 Y_X11_waysOf [.ref (ad G 71), .int x1, .int x2, .int x3, .int x4] M Q
set_option maxRecDepth 20000 in
theorem v_X11_waysOf {G : Glob} {x1 : Int32} {x2 : Int32} {x3 : Int32} {x4 : Int32} {M : Mem} {Q : Option Value → Mem → Prop}  (h : P_X11_waysOf_6 G x1 x2 x3 x4 1 0 M Q) : C_X11_waysOf G x1 x2 x3 x4 M Q := by
  refine wp_enter (ls0 := [some (.ref (ad G 71)), some (.int x1), some (.int x2), some (.int x3), some (.int x4), none, none, none, none]) (by decide +kernel) (Nat.le_of_ble_eq_true rfl) rfl ?_
  refine wp_lconst (v := 1) dX11_waysOf_0 (by decide) ?_
  refine wp_lstore (ls' := [some (.ref (ad G 71)), some (.int x1), some (.int x2), some (.int x3), some (.int x4), some (.long 1), none, none, none]) dX11_waysOf_1 (by decide) rfl rfl ?_
  refine wp_iconst (v := 0) dX11_waysOf_3 (by decide) ?_
  refine wp_istore (ls' := [some (.ref (ad G 71)), some (.int x1), some (.int x2), some (.int x3), some (.int x4), some (.long 1), none, some (.int 0), none]) dX11_waysOf_4 (by decide) rfl rfl ?_
  exact h
abbrev P_X11_allWays_5 (G : Glob) (x1 : Int32) (x2 : Int64) (x4 : Int32) (M : Mem) (Q : Option Value → Mem → Prop) : Prop := Wp G 1 Y_X11_allWays 5 [some (.ref (ad G 71)), some (.int x1), some (.long x2), none, some (.int x4)] [] M Q
set_option maxRecDepth 20000 in
theorem v_X11_allWays_5 {G : Glob} {x1 : Int32} {x2 : Int64} {x4 : Int32} {M : Mem} {Q : Option Value → Mem → Prop}  (h : ((x4 < (M.1 71 20) → ((((x1 >>> (x4 &&& 31)) &&& 1) = 1 → P_X11_allWays_5 G x1 (x2 * 12) (x4 + 1) M Q) ∧ (¬ ((x1 >>> (x4 &&& 31)) &&& 1) = 1 → P_X11_allWays_5 G x1 (x2 * 1) (x4 + 1) M Q))) ∧ (¬ x4 < (M.1 71 20) → Q (some (.long x2)) M))) : P_X11_allWays_5 G x1 x2 x4 M Q := by
  refine wp_iload dX11_allWays_5 rfl ?_
  refine wp_aload_n dX11_allWays_7 rfl rfl ?_
  refine wp_getI dX11_allWays_8 rfl fb_11_20 m_4_175 ?_
  refine wp_icmp_ge (tgt := 40) dX11_allWays_11 (by decide) (fun c1 => ?_) (fun c1 => ?_)
  · replace h := h.2 c1
    refine wp_lload_n dX11_allWays_40 rfl rfl ?_
    exact wp_lret dX11_allWays_41 rfl h
  · replace h := h.1 c1
    refine wp_lload_n dX11_allWays_14 rfl rfl ?_
    refine wp_iload_n dX11_allWays_15 rfl rfl ?_
    refine wp_iload dX11_allWays_16 rfl ?_
    refine wp_ishr dX11_allWays_18 ?_
    refine wp_iconst (v := 1) dX11_allWays_19 (by decide) ?_
    refine wp_iand dX11_allWays_20 ?_
    refine wp_iconst (v := 1) dX11_allWays_21 (by decide) ?_
    refine wp_icmp_ne (tgt := 31) dX11_allWays_22 (by decide) (fun c2 => ?_) (fun c2 => ?_)
    · replace h := h.2 c2
      refine wp_lconst (v := 1) dX11_allWays_31 (by decide) ?_
      refine wp_lmul dX11_allWays_32 ?_
      refine wp_lstore_n (ls' := [some (.ref (ad G 71)), some (.int x1), some (.long (x2 * 1)), none, some (.int x4)]) dX11_allWays_33 rfl (by decide) rfl rfl ?_
      refine wp_iinc (v := (x4 + 1)) (ls' := [some (.ref (ad G 71)), some (.int x1), some (.long (x2 * 1)), none, some (.int (x4 + 1))]) dX11_allWays_34 rfl rfl (by decide) rfl rfl ?_
      refine wp_goto (tgt := 5) dX11_allWays_37 (by decide) ?_
      exact h
    · replace h := h.1 c2
      refine wp_ldc2 (v := 12) m_6_83 dX11_allWays_25 ?_
      refine wp_goto (tgt := 32) dX11_allWays_28 (by decide) ?_
      refine wp_lmul dX11_allWays_32 ?_
      refine wp_lstore_n (ls' := [some (.ref (ad G 71)), some (.int x1), some (.long (x2 * 12)), none, some (.int x4)]) dX11_allWays_33 rfl (by decide) rfl rfl ?_
      refine wp_iinc (v := (x4 + 1)) (ls' := [some (.ref (ad G 71)), some (.int x1), some (.long (x2 * 12)), none, some (.int (x4 + 1))]) dX11_allWays_34 rfl rfl (by decide) rfl rfl ?_
      refine wp_goto (tgt := 5) dX11_allWays_37 (by decide) ?_
      exact h
abbrev C_X11_allWays (G : Glob) (x1 : Int32) (M : Mem) (Q : Option Value → Mem → Prop) : Prop := WpM G 1 Y_X11_allWays [.ref (ad G 71), .int x1] M Q
set_option maxRecDepth 20000 in
theorem v_X11_allWays {G : Glob} {x1 : Int32} {M : Mem} {Q : Option Value → Mem → Prop}  (h : P_X11_allWays_5 G x1 1 0 M Q) : C_X11_allWays G x1 M Q := by
  refine wp_enter (ls0 := [some (.ref (ad G 71)), some (.int x1), none, none, none]) (by decide +kernel) (Nat.le_of_ble_eq_true rfl) rfl ?_
  refine wp_lconst (v := 1) dX11_allWays_0 (by decide) ?_
  refine wp_lstore_n (ls' := [some (.ref (ad G 71)), some (.int x1), some (.long 1), none, none]) dX11_allWays_1 rfl (by decide) rfl rfl ?_
  refine wp_iconst (v := 0) dX11_allWays_2 (by decide) ?_
  refine wp_istore (ls' := [some (.ref (ad G 71)), some (.int x1), some (.long 1), none, some (.int 0)]) dX11_allWays_3 (by decide) rfl rfl ?_
  exact h
abbrev P_X11_odds_46 (G : Glob) (x1 : Int32) (x2 : Int32) (x3 : Int32) (x4 : Int32) (x5 : Int64) (x7 : Int32) (M : Mem) (Q : Option Value → Mem → Prop) : Prop := Wp G 6 Y_X11_odds 46 [some (.ref (ad G 71)), some (.int x1), some (.int x2), some (.int x3), some (.int x4), some (.long x5), none, some (.int x7)] [] M Q
set_option maxRecDepth 20000 in
theorem v_X11_odds_46 {G : Glob} {x1 : Int32} {x2 : Int32} {x3 : Int32} {x4 : Int32} {x5 : Int64} {x7 : Int32} {M : Mem} {Q : Option Value → Mem → Prop}  (h : (WpM G 1 Y_X11_all [.ref (ad G 71)] M (RI (fun r2 M1 => ((r2 < x7 → (WpM G 1 Y_X11_allWays [.ref (ad G 71), .int x4] M1 (RJ (fun r5 M4 => (WpM G 1 Y_X11_tellPart [.ref (ad G 71), .long x5, .long r5] M4 (RV (fun M6 => Q (some (.int 1)) M6))))))) ∧ (¬ r2 < x7 → (((x7 &&& (x4 ^^^ (-1 : Int32))) = 0 → (vp_in x7 256 ∧ (((M1.1 92 x7.toNatClampNeg) < x1 → P_X11_odds_46 G x1 x2 x3 x4 (x5 + 0) (x7 + 1) M1 Q) ∧ (¬ (M1.1 92 x7.toNatClampNeg) < x1 → (WpM G 3 Y_X11_waysOf [.ref (ad G 71), .int x7, .int x4, .int x2, .int x3] M1 (RJ (fun r11 M10 => P_X11_odds_46 G x1 x2 x3 x4 (x5 + r11) (x7 + 1) M10 Q))))))) ∧ (¬ (x7 &&& (x4 ^^^ (-1 : Int32))) = 0 → P_X11_odds_46 G x1 x2 x3 x4 (x5 + 0) (x7 + 1) M1 Q)))))))) : P_X11_odds_46 G x1 x2 x3 x4 x5 x7 M Q := by
  refine wp_iload dX11_odds_46 rfl ?_
  refine wp_aload_n dX11_odds_48 rfl rfl ?_
  refine wp_callVI (a := 71) (d1 := 1) (As := []) (st := [.int x7]) dX11_odds_49 rfl cm_X11_all m_5_206 (by decide) rfl (Nat.le_of_ble_eq_true rfl) rfl h ?_
  intro r2 M1 h
  refine wp_icmp_gt (tgt := 101) dX11_odds_52 (by decide) (fun c3 => ?_) (fun c3 => ?_)
  · replace h := h.1 c3
    refine wp_aload_n dX11_odds_101 rfl rfl ?_
    refine wp_lload dX11_odds_102 rfl ?_
    refine wp_aload_n dX11_odds_104 rfl rfl ?_
    refine wp_iload dX11_odds_105 rfl ?_
    refine wp_callVL (a := 71) (d1 := 1) (As := [.int x4]) (st := [.long x5, .ref (ad G 71)]) dX11_odds_107 rfl cm_X11_allWays m_6_79 (by decide) rfl (Nat.le_of_ble_eq_true rfl) rfl h ?_
    intro r5 M4 h
    refine wp_callVV (a := 71) (d1 := 1) (As := [.long x5, .long r5]) (st := []) dX11_odds_110 rfl cm_X11_tellPart m_6_84 (by decide) rfl (Nat.le_of_ble_eq_true rfl) rfl h ?_
    intro M6 h
    refine wp_iconst (v := 1) dX11_odds_113 (by decide) ?_
    exact wp_iret (ty := .int) dX11_odds_114 rfl rfl h
  · replace h := h.2 c3
    refine wp_lload dX11_odds_55 rfl ?_
    refine wp_iload dX11_odds_57 rfl ?_
    refine wp_iload dX11_odds_59 rfl ?_
    refine wp_iconst (v := (-1 : Int32)) dX11_odds_61 (by decide) ?_
    refine wp_ixor dX11_odds_62 ?_
    refine wp_iand dX11_odds_63 ?_
    refine wp_if_ne (tgt := 91) dX11_odds_64 (by decide) (fun c7 => ?_) (fun c7 => ?_)
    · replace h := h.2 c7
      refine wp_lconst (v := 0) dX11_odds_91 (by decide) ?_
      refine wp_ladd dX11_odds_92 ?_
      refine wp_lstore (ls' := [some (.ref (ad G 71)), some (.int x1), some (.int x2), some (.int x3), some (.int x4), some (.long (x5 + 0)), none, some (.int x7)]) dX11_odds_93 (by decide) rfl rfl ?_
      refine wp_iinc (v := (x7 + 1)) (ls' := [some (.ref (ad G 71)), some (.int x1), some (.int x2), some (.int x3), some (.int x4), some (.long (x5 + 0)), none, some (.int (x7 + 1))]) dX11_odds_95 rfl rfl (by decide) rfl rfl ?_
      refine wp_goto (tgt := 46) dX11_odds_98 (by decide) ?_
      exact h
    · replace h := h.1 c7
      refine wp_aload_n dX11_odds_67 rfl rfl ?_
      refine wp_getR (b := 92) dX11_odds_68 rfl rfl fb_11_32 m_4_187 ?_
      refine wp_iload dX11_odds_71 rfl ?_
      obtain ⟨b8, h⟩ := h
      refine wp_iald (n := 256) dX11_odds_73 rfl rfl b8 ?_
      refine wp_iload_n dX11_odds_74 rfl rfl ?_
      refine wp_icmp_lt (tgt := 91) dX11_odds_75 (by decide) (fun c9 => ?_) (fun c9 => ?_)
      · replace h := h.1 c9
        refine wp_lconst (v := 0) dX11_odds_91 (by decide) ?_
        refine wp_ladd dX11_odds_92 ?_
        refine wp_lstore (ls' := [some (.ref (ad G 71)), some (.int x1), some (.int x2), some (.int x3), some (.int x4), some (.long (x5 + 0)), none, some (.int x7)]) dX11_odds_93 (by decide) rfl rfl ?_
        refine wp_iinc (v := (x7 + 1)) (ls' := [some (.ref (ad G 71)), some (.int x1), some (.int x2), some (.int x3), some (.int x4), some (.long (x5 + 0)), none, some (.int (x7 + 1))]) dX11_odds_95 rfl rfl (by decide) rfl rfl ?_
        refine wp_goto (tgt := 46) dX11_odds_98 (by decide) ?_
        exact h
      · replace h := h.2 c9
        refine wp_aload_n dX11_odds_78 rfl rfl ?_
        refine wp_iload dX11_odds_79 rfl ?_
        refine wp_iload dX11_odds_81 rfl ?_
        refine wp_iload_n dX11_odds_83 rfl rfl ?_
        refine wp_iload_n dX11_odds_84 rfl rfl ?_
        refine wp_callVL (a := 71) (d1 := 3) (As := [.int x7, .int x4, .int x2, .int x3]) (st := [.long x5]) dX11_odds_85 rfl cm_X11_waysOf m_6_71 (by decide) rfl (Nat.le_of_ble_eq_true rfl) rfl h ?_
        intro r11 M10 h
        refine wp_goto (tgt := 92) dX11_odds_88 (by decide) ?_
        refine wp_ladd dX11_odds_92 ?_
        refine wp_lstore (ls' := [some (.ref (ad G 71)), some (.int x1), some (.int x2), some (.int x3), some (.int x4), some (.long (x5 + r11)), none, some (.int x7)]) dX11_odds_93 (by decide) rfl rfl ?_
        refine wp_iinc (v := (x7 + 1)) (ls' := [some (.ref (ad G 71)), some (.int x1), some (.int x2), some (.int x3), some (.int x4), some (.long (x5 + r11)), none, some (.int (x7 + 1))]) dX11_odds_95 rfl rfl (by decide) rfl rfl ?_
        refine wp_goto (tgt := 46) dX11_odds_98 (by decide) ?_
        exact h
abbrev C_X11_odds (G : Glob) (x1 : Int32) (x2 : Int32) (x3 : Int32) (M : Mem) (Q : Option Value → Mem → Prop) : Prop := WpM G 6 Y_X11_odds [.ref (ad G 71), .int x1, .int x2, .int x3] M Q
set_option maxRecDepth 20000 in
theorem v_X11_odds {G : Glob} {x1 : Int32} {x2 : Int32} {x3 : Int32} {M : Mem} {Q : Option Value → Mem → Prop}  (h : (WpM G 1 Y_X11_in [.int x1, .int 0, .int 4] M (RI (fun r2 M1 => ((r2 = 0 → Q (some (.int (-1 : Int32))) M1) ∧ (¬ r2 = 0 → (WpM G 2 Y_X11_areOf [.int x2, .int x3] M1 (RI (fun r5 M4 => ((r5 = 0 → Q (some (.int (-1 : Int32))) M4) ∧ (¬ r5 = 0 → (((M4.1 71 20) = 0 → Q (some (.int (-4 : Int32))) M4) ∧ (¬ (M4.1 71 20) = 0 → (WpM G 5 Y_X11_measure [.ref (ad G 71)] M4 (RV (fun M8 => (WpM G 1 Y_X11_setIn [.ref (ad G 71), .int 0] M8 (RI (fun r10 M9 => P_X11_odds_46 G x1 x2 x3 r10 0 0 M9 Q))))))))))))))))))) : C_X11_odds G x1 x2 x3 M Q := by
  refine wp_enter (ls0 := [some (.ref (ad G 71)), some (.int x1), some (.int x2), some (.int x3), none, none, none, none]) (by decide +kernel) (Nat.le_of_ble_eq_true rfl) rfl ?_
  refine wp_iload_n dX11_odds_0 rfl rfl ?_
  refine wp_iconst (v := 0) dX11_odds_1 (by decide) ?_
  refine wp_iconst (v := 4) dX11_odds_2 (by decide) ?_
  refine wp_callSI (d1 := 1) (As := [.int x1, .int 0, .int 4]) (st := []) dX11_odds_3 cm_X11_in m_5_32 (by decide) rfl (Nat.le_of_ble_eq_true rfl) rfl h ?_
  intro r2 M1 h
  refine wp_if_eq (tgt := 17) dX11_odds_6 (by decide) (fun c3 => ?_) (fun c3 => ?_)
  · replace h := h.1 c3
    refine wp_iconst (v := (-1 : Int32)) dX11_odds_17 (by decide) ?_
    exact wp_iret (ty := .int) dX11_odds_18 rfl rfl h
  · replace h := h.2 c3
    refine wp_iload_n dX11_odds_9 rfl rfl ?_
    refine wp_iload_n dX11_odds_10 rfl rfl ?_
    refine wp_callSI (d1 := 2) (As := [.int x2, .int x3]) (st := []) dX11_odds_11 cm_X11_areOf m_6_68 (by decide) rfl (Nat.le_of_ble_eq_true rfl) rfl h ?_
    intro r5 M4 h
    refine wp_if_ne (tgt := 19) dX11_odds_14 (by decide) (fun c6 => ?_) (fun c6 => ?_)
    · replace h := h.2 c6
      refine wp_aload_n dX11_odds_19 rfl rfl ?_
      refine wp_getI dX11_odds_20 rfl fb_11_20 m_4_175 ?_
      refine wp_if_ne (tgt := 29) dX11_odds_23 (by decide) (fun c7 => ?_) (fun c7 => ?_)
      · replace h := h.2 c7
        refine wp_aload_n dX11_odds_29 rfl rfl ?_
        refine wp_callVV (a := 71) (d1 := 5) (As := []) (st := []) dX11_odds_30 rfl cm_X11_measure m_5_210 (by decide) rfl (Nat.le_of_ble_eq_true rfl) rfl h ?_
        intro M8 h
        refine wp_aload_n dX11_odds_33 rfl rfl ?_
        refine wp_iconst (v := 0) dX11_odds_34 (by decide) ?_
        refine wp_callVI (a := 71) (d1 := 1) (As := [.int 0]) (st := []) dX11_odds_35 rfl cm_X11_setIn m_5_175 (by decide) rfl (Nat.le_of_ble_eq_true rfl) rfl h ?_
        intro r10 M9 h
        refine wp_istore (ls' := [some (.ref (ad G 71)), some (.int x1), some (.int x2), some (.int x3), some (.int r10), none, none, none]) dX11_odds_38 (by decide) rfl rfl ?_
        refine wp_lconst (v := 0) dX11_odds_40 (by decide) ?_
        refine wp_lstore (ls' := [some (.ref (ad G 71)), some (.int x1), some (.int x2), some (.int x3), some (.int r10), some (.long 0), none, none]) dX11_odds_41 (by decide) rfl rfl ?_
        refine wp_iconst (v := 0) dX11_odds_43 (by decide) ?_
        refine wp_istore (ls' := [some (.ref (ad G 71)), some (.int x1), some (.int x2), some (.int x3), some (.int r10), some (.long 0), none, some (.int 0)]) dX11_odds_44 (by decide) rfl rfl ?_
        exact h
      · replace h := h.1 c7
        refine wp_bipush (v := (-4 : Int32)) dX11_odds_26 (by decide) ?_
        exact wp_iret (ty := .int) dX11_odds_28 rfl rfl h
    · replace h := h.1 c6
      refine wp_iconst (v := (-1 : Int32)) dX11_odds_17 (by decide) ?_
      exact wp_iret (ty := .int) dX11_odds_18 rfl rfl h
abbrev P_X11_mid_36 (G : Glob) (x1 : Int32) (x2 : Int32) (x3 : Int32) (x4 : Int64) (x6 : Int32) (M : Mem) (Q : Option Value → Mem → Prop) : Prop := Wp G 6 Y_X11_mid 36 [some (.ref (ad G 71)), some (.int x1), some (.int x2), some (.int x3), some (.long x4), none, some (.int x6)] [] M Q
set_option maxRecDepth 20000 in
theorem v_X11_mid_36 {G : Glob} {x1 : Int32} {x2 : Int32} {x3 : Int32} {x4 : Int64} {x6 : Int32} {M : Mem} {Q : Option Value → Mem → Prop}  (h : (WpM G 1 Y_X11_all [.ref (ad G 71)] M (RI (fun r2 M1 => ((r2 < x6 → (WpM G 1 Y_X11_allWays [.ref (ad G 71), .int x3] M1 (RJ (fun r5 M4 => (WpM G 1 Y_X11_tellPart [.ref (ad G 71), .long x4, .long r5] M4 (RV (fun M6 => Q (some (.int 1)) M6))))))) ∧ (¬ r2 < x6 → (((x6 &&& (x3 ^^^ (-1 : Int32))) = 0 → (vp_in x6 256 ∧ (WpM G 3 Y_X11_waysOf [.ref (ad G 71), .int x6, .int x3, .int x1, .int x2] M1 (RJ (fun r10 M9 => (∀ y11 : Int64, y11 = (x4 + ((M1.1 91 x6.toNatClampNeg).toInt64 * r10)) → P_X11_mid_36 G x1 x2 x3 y11 (x6 + 1) M9 Q)))))) ∧ (¬ (x6 &&& (x3 ^^^ (-1 : Int32))) = 0 → P_X11_mid_36 G x1 x2 x3 (x4 + 0) (x6 + 1) M1 Q)))))))) : P_X11_mid_36 G x1 x2 x3 x4 x6 M Q := by
  refine wp_iload dX11_mid_36 rfl ?_
  refine wp_aload_n dX11_mid_38 rfl rfl ?_
  refine wp_callVI (a := 71) (d1 := 1) (As := []) (st := [.int x6]) dX11_mid_39 rfl cm_X11_all m_5_206 (by decide) rfl (Nat.le_of_ble_eq_true rfl) rfl h ?_
  intro r2 M1 h
  refine wp_icmp_gt (tgt := 87) dX11_mid_42 (by decide) (fun c3 => ?_) (fun c3 => ?_)
  · replace h := h.1 c3
    refine wp_aload_n dX11_mid_87 rfl rfl ?_
    refine wp_lload dX11_mid_88 rfl ?_
    refine wp_aload_n dX11_mid_90 rfl rfl ?_
    refine wp_iload_n dX11_mid_91 rfl rfl ?_
    refine wp_callVL (a := 71) (d1 := 1) (As := [.int x3]) (st := [.long x4, .ref (ad G 71)]) dX11_mid_92 rfl cm_X11_allWays m_6_79 (by decide) rfl (Nat.le_of_ble_eq_true rfl) rfl h ?_
    intro r5 M4 h
    refine wp_callVV (a := 71) (d1 := 1) (As := [.long x4, .long r5]) (st := []) dX11_mid_95 rfl cm_X11_tellPart m_6_84 (by decide) rfl (Nat.le_of_ble_eq_true rfl) rfl h ?_
    intro M6 h
    refine wp_iconst (v := 1) dX11_mid_98 (by decide) ?_
    exact wp_iret (ty := .int) dX11_mid_99 rfl rfl h
  · replace h := h.2 c3
    refine wp_lload dX11_mid_45 rfl ?_
    refine wp_iload dX11_mid_47 rfl ?_
    refine wp_iload_n dX11_mid_49 rfl rfl ?_
    refine wp_iconst (v := (-1 : Int32)) dX11_mid_50 (by decide) ?_
    refine wp_ixor dX11_mid_51 ?_
    refine wp_iand dX11_mid_52 ?_
    refine wp_if_ne (tgt := 77) dX11_mid_53 (by decide) (fun c7 => ?_) (fun c7 => ?_)
    · replace h := h.2 c7
      refine wp_lconst (v := 0) dX11_mid_77 (by decide) ?_
      refine wp_ladd dX11_mid_78 ?_
      refine wp_lstore (ls' := [some (.ref (ad G 71)), some (.int x1), some (.int x2), some (.int x3), some (.long (x4 + 0)), none, some (.int x6)]) dX11_mid_79 (by decide) rfl rfl ?_
      refine wp_iinc (v := (x6 + 1)) (ls' := [some (.ref (ad G 71)), some (.int x1), some (.int x2), some (.int x3), some (.long (x4 + 0)), none, some (.int (x6 + 1))]) dX11_mid_81 rfl rfl (by decide) rfl rfl ?_
      refine wp_goto (tgt := 36) dX11_mid_84 (by decide) ?_
      exact h
    · replace h := h.1 c7
      refine wp_aload_n dX11_mid_56 rfl rfl ?_
      refine wp_getR (b := 91) dX11_mid_57 rfl rfl fb_11_31 m_4_186 ?_
      refine wp_iload dX11_mid_60 rfl ?_
      obtain ⟨b8, h⟩ := h
      refine wp_iald (n := 256) dX11_mid_62 rfl rfl b8 ?_
      refine wp_i2l dX11_mid_63 ?_
      refine wp_aload_n dX11_mid_64 rfl rfl ?_
      refine wp_iload dX11_mid_65 rfl ?_
      refine wp_iload_n dX11_mid_67 rfl rfl ?_
      refine wp_iload_n dX11_mid_68 rfl rfl ?_
      refine wp_iload_n dX11_mid_69 rfl rfl ?_
      refine wp_callVL (a := 71) (d1 := 3) (As := [.int x6, .int x3, .int x1, .int x2]) (st := [.long ((M1.1 91 x6.toNatClampNeg).toInt64), .long x4]) dX11_mid_70 rfl cm_X11_waysOf m_6_71 (by decide) rfl (Nat.le_of_ble_eq_true rfl) rfl h ?_
      intro r10 M9 h
      refine wp_lmul dX11_mid_73 ?_
      refine wp_goto (tgt := 78) dX11_mid_74 (by decide) ?_
      refine wp_ladd dX11_mid_78 ?_
      refine wp_topJ (fun y11 hy11 => ?_)
      replace h := h y11 hy11
      refine wp_lstore (ls' := [some (.ref (ad G 71)), some (.int x1), some (.int x2), some (.int x3), some (.long y11), none, some (.int x6)]) dX11_mid_79 (by decide) rfl rfl ?_
      refine wp_iinc (v := (x6 + 1)) (ls' := [some (.ref (ad G 71)), some (.int x1), some (.int x2), some (.int x3), some (.long y11), none, some (.int (x6 + 1))]) dX11_mid_81 rfl rfl (by decide) rfl rfl ?_
      refine wp_goto (tgt := 36) dX11_mid_84 (by decide) ?_
      exact h
abbrev C_X11_mid (G : Glob) (x1 : Int32) (x2 : Int32) (M : Mem) (Q : Option Value → Mem → Prop) : Prop := WpM G 6 Y_X11_mid [.ref (ad G 71), .int x1, .int x2] M Q
set_option maxRecDepth 20000 in
theorem v_X11_mid {G : Glob} {x1 : Int32} {x2 : Int32} {M : Mem} {Q : Option Value → Mem → Prop}  (h : (WpM G 2 Y_X11_areOf [.int x1, .int x2] M (RI (fun r2 M1 => ((r2 = 0 → Q (some (.int (-1 : Int32))) M1) ∧ (¬ r2 = 0 → (((M1.1 71 20) = 0 → Q (some (.int (-4 : Int32))) M1) ∧ (¬ (M1.1 71 20) = 0 → (WpM G 5 Y_X11_measure [.ref (ad G 71)] M1 (RV (fun M5 => (WpM G 1 Y_X11_setIn [.ref (ad G 71), .int 0] M5 (RI (fun r7 M6 => P_X11_mid_36 G x1 x2 r7 0 0 M6 Q)))))))))))))) : C_X11_mid G x1 x2 M Q := by
  refine wp_enter (ls0 := [some (.ref (ad G 71)), some (.int x1), some (.int x2), none, none, none, none]) (by decide +kernel) (Nat.le_of_ble_eq_true rfl) rfl ?_
  refine wp_iload_n dX11_mid_0 rfl rfl ?_
  refine wp_iload_n dX11_mid_1 rfl rfl ?_
  refine wp_callSI (d1 := 2) (As := [.int x1, .int x2]) (st := []) dX11_mid_2 cm_X11_areOf m_6_68 (by decide) rfl (Nat.le_of_ble_eq_true rfl) rfl h ?_
  intro r2 M1 h
  refine wp_if_ne (tgt := 10) dX11_mid_5 (by decide) (fun c3 => ?_) (fun c3 => ?_)
  · replace h := h.2 c3
    refine wp_aload_n dX11_mid_10 rfl rfl ?_
    refine wp_getI dX11_mid_11 rfl fb_11_20 m_4_175 ?_
    refine wp_if_ne (tgt := 20) dX11_mid_14 (by decide) (fun c4 => ?_) (fun c4 => ?_)
    · replace h := h.2 c4
      refine wp_aload_n dX11_mid_20 rfl rfl ?_
      refine wp_callVV (a := 71) (d1 := 5) (As := []) (st := []) dX11_mid_21 rfl cm_X11_measure m_5_210 (by decide) rfl (Nat.le_of_ble_eq_true rfl) rfl h ?_
      intro M5 h
      refine wp_aload_n dX11_mid_24 rfl rfl ?_
      refine wp_iconst (v := 0) dX11_mid_25 (by decide) ?_
      refine wp_callVI (a := 71) (d1 := 1) (As := [.int 0]) (st := []) dX11_mid_26 rfl cm_X11_setIn m_5_175 (by decide) rfl (Nat.le_of_ble_eq_true rfl) rfl h ?_
      intro r7 M6 h
      refine wp_istore_n (ls' := [some (.ref (ad G 71)), some (.int x1), some (.int x2), some (.int r7), none, none, none]) dX11_mid_29 rfl (by decide) rfl rfl ?_
      refine wp_lconst (v := 0) dX11_mid_30 (by decide) ?_
      refine wp_lstore (ls' := [some (.ref (ad G 71)), some (.int x1), some (.int x2), some (.int r7), some (.long 0), none, none]) dX11_mid_31 (by decide) rfl rfl ?_
      refine wp_iconst (v := 0) dX11_mid_33 (by decide) ?_
      refine wp_istore (ls' := [some (.ref (ad G 71)), some (.int x1), some (.int x2), some (.int r7), some (.long 0), none, some (.int 0)]) dX11_mid_34 (by decide) rfl rfl ?_
      exact h
    · replace h := h.1 c4
      refine wp_bipush (v := (-4 : Int32)) dX11_mid_17 (by decide) ?_
      exact wp_iret (ty := .int) dX11_mid_19 rfl rfl h
  · replace h := h.1 c3
    refine wp_iconst (v := (-1 : Int32)) dX11_mid_8 (by decide) ?_
    exact wp_iret (ty := .int) dX11_mid_9 rfl rfl h
abbrev P_X11_lots_53 (G : Glob) (x1 : Int32) (x3 : Int64) (x5 : Int32) (M : Mem) (Q : Option Value → Mem → Prop) : Prop := Wp G 6 Y_X11_lots 53 [some (.ref (ad G 71)), some (.int x1), none, some (.long x3), none, some (.int x5), none] [] M Q
abbrev P_X11_lots_119 (G : Glob) (x1 : Int32) (x3 : Int64) (x5 : Int32) (x6 : Int32) (M : Mem) (Q : Option Value → Mem → Prop) : Prop := Wp G 6 Y_X11_lots 119 [some (.ref (ad G 71)), some (.int x1), none, some (.long x3), none, some (.int x5), some (.int x6)] [] M Q
abbrev P_X11_lots_152 (G : Glob) (x1 : Int32) (x3 : Int64) (x5 : Int32) (M : Mem) (Q : Option Value → Mem → Prop) : Prop := Wp G 6 Y_X11_lots 152 [some (.ref (ad G 71)), some (.int x1), none, some (.long x3), none, some (.int x5), none] [] M Q
set_option maxRecDepth 20000 in
theorem v_X11_lots_53 {G : Glob} {x1 : Int32} {x3 : Int64} {x5 : Int32} {M : Mem} {Q : Option Value → Mem → Prop}  (h : ((x5 < x1 → (∀ y4 : Int64, y4 = ((48271 * x3) - (48271 * x3) / 2147483647 * 2147483647) → (¬ (M.1 71 20).toInt64 = 0 ∧ (∀ y5 : Int32, y5 = ((y4 / 8) - (y4 / 8) / (M.1 71 20).toInt64 * (M.1 71 20).toInt64).toInt32 → (WpM G 5 Y_X11_listTwos [.ref (ad G 71)] M (RV (fun M6 => (vp_in y5 8 ∧ (((M6.1 86 y5.toNatClampNeg) = 0 → (vp_in y5 8 ∧ (((M6.1 82 y5.toNatClampNeg) = 3 → P_X11_lots_119 G x1 y4 x5 y5 M6 Q) ∧ (¬ (M6.1 82 y5.toNatClampNeg) = 3 → (WpM G 2 Y_X11_does [.ref (ad G 71), .int 1, .int y5, .int 0] M6 (RV (fun M11 => P_X11_lots_53 G x1 y4 (x5 + 1) M11 Q))))))) ∧ (¬ (M6.1 86 y5.toNatClampNeg) = 0 → P_X11_lots_119 G x1 y4 x5 y5 M6 Q)))))))))) ∧ (¬ x5 < x1 → (WpM G 2 Y_X11_inDrawer [.ref (ad G 71)] M (RI (fun r3 M2 => Q (some (.int r3)) M2)))))) : P_X11_lots_53 G x1 x3 x5 M Q := by
  refine wp_iload dX11_lots_53 rfl ?_
  refine wp_iload_n dX11_lots_55 rfl rfl ?_
  refine wp_icmp_ge (tgt := 198) dX11_lots_56 (by decide) (fun c1 => ?_) (fun c1 => ?_)
  · replace h := h.2 c1
    refine wp_aload_n dX11_lots_198 rfl rfl ?_
    refine wp_callVI (a := 71) (d1 := 2) (As := []) (st := []) dX11_lots_199 rfl cm_X11_inDrawer m_5_171 (by decide) rfl (Nat.le_of_ble_eq_true rfl) rfl h ?_
    intro r3 M2 h
    exact wp_iret (ty := .int) dX11_lots_202 rfl rfl h
  · replace h := h.1 c1
    refine wp_ldc2 (v := 48271) m_6_97 dX11_lots_59 ?_
    refine wp_lload_n dX11_lots_62 rfl rfl ?_
    refine wp_lmul dX11_lots_63 ?_
    refine wp_ldc2 (v := 2147483647) m_6_98 dX11_lots_64 ?_
    refine wp_lrem dX11_lots_67 (by decide) ?_
    refine wp_topJ (fun y4 hy4 => ?_)
    replace h := h y4 hy4
    refine wp_lstore_n (ls' := [some (.ref (ad G 71)), some (.int x1), none, some (.long y4), none, some (.int x5), none]) dX11_lots_68 rfl (by decide) rfl rfl ?_
    refine wp_lload_n dX11_lots_69 rfl rfl ?_
    refine wp_ldc2 (v := 8) m_6_99 dX11_lots_70 ?_
    refine wp_ldiv dX11_lots_73 (by decide) ?_
    refine wp_aload_n dX11_lots_74 rfl rfl ?_
    refine wp_getI dX11_lots_75 rfl fb_11_20 m_4_175 ?_
    refine wp_i2l dX11_lots_78 ?_
    refine wp_lrem dX11_lots_79 h.1 ?_
    replace h := h.2
    refine wp_l2i dX11_lots_80 ?_
    refine wp_topI (fun y5 hy5 => ?_)
    replace h := h y5 hy5
    refine wp_istore (ls' := [some (.ref (ad G 71)), some (.int x1), none, some (.long y4), none, some (.int x5), some (.int y5)]) dX11_lots_81 (by decide) rfl rfl ?_
    refine wp_aload_n dX11_lots_83 rfl rfl ?_
    refine wp_callVV (a := 71) (d1 := 5) (As := []) (st := []) dX11_lots_84 rfl cm_X11_listTwos m_5_233 (by decide) rfl (Nat.le_of_ble_eq_true rfl) rfl h ?_
    intro M6 h
    refine wp_aload_n dX11_lots_87 rfl rfl ?_
    refine wp_getR (b := 86) dX11_lots_88 rfl rfl fb_11_25 m_4_180 ?_
    refine wp_iload dX11_lots_91 rfl ?_
    obtain ⟨b7, h⟩ := h
    refine wp_iald (n := 8) dX11_lots_93 rfl rfl b7 ?_
    refine wp_if_ne (tgt := 119) dX11_lots_94 (by decide) (fun c8 => ?_) (fun c8 => ?_)
    · replace h := h.2 c8
      exact h
    · replace h := h.1 c8
      refine wp_aload_n dX11_lots_97 rfl rfl ?_
      refine wp_getR (b := 82) dX11_lots_98 rfl rfl fb_11_21 m_4_176 ?_
      refine wp_iload dX11_lots_101 rfl ?_
      obtain ⟨b9, h⟩ := h
      refine wp_iald (n := 8) dX11_lots_103 rfl rfl b9 ?_
      refine wp_iconst (v := 3) dX11_lots_104 (by decide) ?_
      refine wp_icmp_eq (tgt := 119) dX11_lots_105 (by decide) (fun c10 => ?_) (fun c10 => ?_)
      · replace h := h.1 c10
        exact h
      · replace h := h.2 c10
        refine wp_aload_n dX11_lots_108 rfl rfl ?_
        refine wp_iconst (v := 1) dX11_lots_109 (by decide) ?_
        refine wp_iload dX11_lots_110 rfl ?_
        refine wp_iconst (v := 0) dX11_lots_112 (by decide) ?_
        refine wp_callVV (a := 71) (d1 := 2) (As := [.int 1, .int y5, .int 0]) (st := []) dX11_lots_113 rfl cm_X11_does m_5_163 (by decide) rfl (Nat.le_of_ble_eq_true rfl) rfl h ?_
        intro M11 h
        refine wp_goto (tgt := 192) dX11_lots_116 (by decide) ?_
        refine wp_iinc (v := (x5 + 1)) (ls' := [some (.ref (ad G 71)), some (.int x1), none, some (.long y4), none, some (.int (x5 + 1)), some (.int y5)]) dX11_lots_192 rfl rfl (by decide) rfl rfl ?_
        refine wp_goto (tgt := 53) dX11_lots_195 (by decide) ?_
        exact wp_mask [true, true, false, true, false, true, false] rfl h
set_option maxRecDepth 20000 in
theorem v_X11_lots_119 {G : Glob} {x1 : Int32} {x3 : Int64} {x5 : Int32} {x6 : Int32} {M : Mem} {Q : Option Value → Mem → Prop}  (h : (vp_in x6 8 ∧ (((M.1 86 x6.toNatClampNeg) = 1 → (WpM G 2 Y_X11_inDrawer [.ref (ad G 71)] M (RI (fun r4 M3 => ((r4 < (M3.1 71 19) → (WpM G 2 Y_X11_does [.ref (ad G 71), .int 2, .int x6, .int 0] M3 (RV (fun M6 => P_X11_lots_53 G x1 x3 (x5 + 1) M6 Q)))) ∧ (¬ r4 < (M3.1 71 19) → P_X11_lots_152 G x1 x3 x5 M3 Q)))))) ∧ (¬ (M.1 86 x6.toNatClampNeg) = 1 → P_X11_lots_152 G x1 x3 x5 M Q)))) : P_X11_lots_119 G x1 x3 x5 x6 M Q := by
  refine wp_aload_n dX11_lots_119 rfl rfl ?_
  refine wp_getR (b := 86) dX11_lots_120 rfl rfl fb_11_25 m_4_180 ?_
  refine wp_iload dX11_lots_123 rfl ?_
  obtain ⟨b1, h⟩ := h
  refine wp_iald (n := 8) dX11_lots_125 rfl rfl b1 ?_
  refine wp_iconst (v := 1) dX11_lots_126 (by decide) ?_
  refine wp_icmp_ne (tgt := 152) dX11_lots_127 (by decide) (fun c2 => ?_) (fun c2 => ?_)
  · replace h := h.2 c2
    exact wp_mask [true, true, false, true, false, true, false] rfl h
  · replace h := h.1 c2
    refine wp_aload_n dX11_lots_130 rfl rfl ?_
    refine wp_callVI (a := 71) (d1 := 2) (As := []) (st := []) dX11_lots_131 rfl cm_X11_inDrawer m_5_171 (by decide) rfl (Nat.le_of_ble_eq_true rfl) rfl h ?_
    intro r4 M3 h
    refine wp_aload_n dX11_lots_134 rfl rfl ?_
    refine wp_getI dX11_lots_135 rfl fb_11_19 m_4_174 ?_
    refine wp_icmp_ge (tgt := 152) dX11_lots_138 (by decide) (fun c5 => ?_) (fun c5 => ?_)
    · replace h := h.2 c5
      exact wp_mask [true, true, false, true, false, true, false] rfl h
    · replace h := h.1 c5
      refine wp_aload_n dX11_lots_141 rfl rfl ?_
      refine wp_iconst (v := 2) dX11_lots_142 (by decide) ?_
      refine wp_iload dX11_lots_143 rfl ?_
      refine wp_iconst (v := 0) dX11_lots_145 (by decide) ?_
      refine wp_callVV (a := 71) (d1 := 2) (As := [.int 2, .int x6, .int 0]) (st := []) dX11_lots_146 rfl cm_X11_does m_5_163 (by decide) rfl (Nat.le_of_ble_eq_true rfl) rfl h ?_
      intro M6 h
      refine wp_goto (tgt := 192) dX11_lots_149 (by decide) ?_
      refine wp_iinc (v := (x5 + 1)) (ls' := [some (.ref (ad G 71)), some (.int x1), none, some (.long x3), none, some (.int (x5 + 1)), some (.int x6)]) dX11_lots_192 rfl rfl (by decide) rfl rfl ?_
      refine wp_goto (tgt := 53) dX11_lots_195 (by decide) ?_
      exact wp_mask [true, true, false, true, false, true, false] rfl h
set_option maxRecDepth 20000 in
theorem v_X11_lots_152 {G : Glob} {x1 : Int32} {x3 : Int64} {x5 : Int32} {M : Mem} {Q : Option Value → Mem → Prop}  (h : (((0 : Int32) < (M.1 71 34) → (vp_in 0 28 ∧ (vp_in 0 28 ∧ (WpM G 2 Y_X11_does [.ref (ad G 71), .int 0, .int ((M.1 93 (0 : Int32).toNatClampNeg) / 10), .int ((M.1 93 (0 : Int32).toNatClampNeg) - (M.1 93 (0 : Int32).toNatClampNeg) / 10 * 10)] M (RV (fun M5 => P_X11_lots_53 G x1 x3 (x5 + 1) M5 Q)))))) ∧ (¬ (0 : Int32) < (M.1 71 34) → (WpM G 2 Y_X11_does [.ref (ad G 71), .int 4, .int 0, .int 0] M (RV (fun M2 => P_X11_lots_53 G x1 x3 (x5 + 1) M2 Q)))))) : P_X11_lots_152 G x1 x3 x5 M Q := by
  refine wp_aload_n dX11_lots_152 rfl rfl ?_
  refine wp_getI dX11_lots_153 rfl fb_11_34 m_4_189 ?_
  refine wp_if_le (tgt := 185) dX11_lots_156 (by decide) (fun c1 => ?_) (fun c1 => ?_)
  · replace h := h.2 c1
    refine wp_aload_n dX11_lots_185 rfl rfl ?_
    refine wp_iconst (v := 4) dX11_lots_186 (by decide) ?_
    refine wp_iconst (v := 0) dX11_lots_187 (by decide) ?_
    refine wp_iconst (v := 0) dX11_lots_188 (by decide) ?_
    refine wp_callVV (a := 71) (d1 := 2) (As := [.int 4, .int 0, .int 0]) (st := []) dX11_lots_189 rfl cm_X11_does m_5_163 (by decide) rfl (Nat.le_of_ble_eq_true rfl) rfl h ?_
    intro M2 h
    refine wp_iinc (v := (x5 + 1)) (ls' := [some (.ref (ad G 71)), some (.int x1), none, some (.long x3), none, some (.int (x5 + 1)), none]) dX11_lots_192 rfl rfl (by decide) rfl rfl ?_
    refine wp_goto (tgt := 53) dX11_lots_195 (by decide) ?_
    exact h
  · replace h := h.1 c1
    refine wp_aload_n dX11_lots_159 rfl rfl ?_
    refine wp_iconst (v := 0) dX11_lots_160 (by decide) ?_
    refine wp_aload_n dX11_lots_161 rfl rfl ?_
    refine wp_getR (b := 93) dX11_lots_162 rfl rfl fb_11_33 m_4_188 ?_
    refine wp_iconst (v := 0) dX11_lots_165 (by decide) ?_
    obtain ⟨b3, h⟩ := h
    refine wp_iald (n := 28) dX11_lots_166 rfl rfl b3 ?_
    refine wp_bipush (v := 10) dX11_lots_167 (by decide) ?_
    refine wp_idiv dX11_lots_169 (by decide) ?_
    refine wp_aload_n dX11_lots_170 rfl rfl ?_
    refine wp_getR (b := 93) dX11_lots_171 rfl rfl fb_11_33 m_4_188 ?_
    refine wp_iconst (v := 0) dX11_lots_174 (by decide) ?_
    obtain ⟨b4, h⟩ := h
    refine wp_iald (n := 28) dX11_lots_175 rfl rfl b4 ?_
    refine wp_bipush (v := 10) dX11_lots_176 (by decide) ?_
    refine wp_irem dX11_lots_178 (by decide) ?_
    refine wp_callVV (a := 71) (d1 := 2) (As := [.int 0, .int ((M.1 93 (0 : Int32).toNatClampNeg) / 10), .int ((M.1 93 (0 : Int32).toNatClampNeg) - (M.1 93 (0 : Int32).toNatClampNeg) / 10 * 10)]) (st := []) dX11_lots_179 rfl cm_X11_does m_5_163 (by decide) rfl (Nat.le_of_ble_eq_true rfl) rfl h ?_
    intro M5 h
    refine wp_goto (tgt := 192) dX11_lots_182 (by decide) ?_
    refine wp_iinc (v := (x5 + 1)) (ls' := [some (.ref (ad G 71)), some (.int x1), none, some (.long x3), none, some (.int (x5 + 1)), none]) dX11_lots_192 rfl rfl (by decide) rfl rfl ?_
    refine wp_goto (tgt := 53) dX11_lots_195 (by decide) ?_
    exact h
abbrev C_X11_lots (G : Glob) (x1 : Int32) (x2 : Int32) (M : Mem) (Q : Option Value → Mem → Prop) : Prop := WpM G 6 Y_X11_lots [.ref (ad G 71), .int x1, .int x2] M Q
set_option maxRecDepth 20000 in
theorem v_X11_lots {G : Glob} {x1 : Int32} {x2 : Int32} {M : Mem} {Q : Option Value → Mem → Prop}  (h : (WpM G 1 Y_X11_in [.int x1, .int 1, .int 20] M (RI (fun r2 M1 => ((r2 = 0 → Q (some (.int (-1 : Int32))) M1) ∧ (¬ r2 = 0 → (WpM G 1 Y_X11_in [.int x2, .int 1, .int 2147483646] M1 (RI (fun r5 M4 => ((r5 = 0 → Q (some (.int (-1 : Int32))) M4) ∧ (¬ r5 = 0 → (((M4.1 71 20) = 0 → Q (some (.int (-4 : Int32))) M4) ∧ (¬ (M4.1 71 20) = 0 → (((40 : Int32) < ((M4.1 71 27) + x1) → Q (some (.int (-2 : Int32))) M4) ∧ (¬ (40 : Int32) < ((M4.1 71 27) + x1) → P_X11_lots_53 G x1 x2.toInt64 0 M4 Q))))))))))))))) : C_X11_lots G x1 x2 M Q := by
  refine wp_enter (ls0 := [some (.ref (ad G 71)), some (.int x1), some (.int x2), none, none, none, none]) (by decide +kernel) (Nat.le_of_ble_eq_true rfl) rfl ?_
  refine wp_iload_n dX11_lots_0 rfl rfl ?_
  refine wp_iconst (v := 1) dX11_lots_1 (by decide) ?_
  refine wp_bipush (v := 20) dX11_lots_2 (by decide) ?_
  refine wp_callSI (d1 := 1) (As := [.int x1, .int 1, .int 20]) (st := []) dX11_lots_4 cm_X11_in m_5_32 (by decide) rfl (Nat.le_of_ble_eq_true rfl) rfl h ?_
  intro r2 M1 h
  refine wp_if_eq (tgt := 21) dX11_lots_7 (by decide) (fun c3 => ?_) (fun c3 => ?_)
  · replace h := h.1 c3
    refine wp_iconst (v := (-1 : Int32)) dX11_lots_21 (by decide) ?_
    exact wp_iret (ty := .int) dX11_lots_22 rfl rfl h
  · replace h := h.2 c3
    refine wp_iload_n dX11_lots_10 rfl rfl ?_
    refine wp_iconst (v := 1) dX11_lots_11 (by decide) ?_
    refine wp_ldcw (v := 2147483646) m_6_96 dX11_lots_12 ?_
    refine wp_callSI (d1 := 1) (As := [.int x2, .int 1, .int 2147483646]) (st := []) dX11_lots_15 cm_X11_in m_5_32 (by decide) rfl (Nat.le_of_ble_eq_true rfl) rfl h ?_
    intro r5 M4 h
    refine wp_if_ne (tgt := 23) dX11_lots_18 (by decide) (fun c6 => ?_) (fun c6 => ?_)
    · replace h := h.2 c6
      refine wp_aload_n dX11_lots_23 rfl rfl ?_
      refine wp_getI dX11_lots_24 rfl fb_11_20 m_4_175 ?_
      refine wp_if_ne (tgt := 33) dX11_lots_27 (by decide) (fun c7 => ?_) (fun c7 => ?_)
      · replace h := h.2 c7
        refine wp_aload_n dX11_lots_33 rfl rfl ?_
        refine wp_getI dX11_lots_34 rfl fb_11_27 m_4_182 ?_
        refine wp_iload_n dX11_lots_37 rfl rfl ?_
        refine wp_iadd dX11_lots_38 ?_
        refine wp_bipush (v := 40) dX11_lots_39 (by decide) ?_
        refine wp_icmp_le (tgt := 47) dX11_lots_41 (by decide) (fun c8 => ?_) (fun c8 => ?_)
        · replace h := h.2 c8
          refine wp_iload_n dX11_lots_47 rfl rfl ?_
          refine wp_i2l dX11_lots_48 ?_
          refine wp_lstore_n (ls' := [some (.ref (ad G 71)), some (.int x1), some (.int x2), some (.long x2.toInt64), none, none, none]) dX11_lots_49 rfl (by decide) rfl rfl ?_
          refine wp_iconst (v := 0) dX11_lots_50 (by decide) ?_
          refine wp_istore (ls' := [some (.ref (ad G 71)), some (.int x1), some (.int x2), some (.long x2.toInt64), none, some (.int 0), none]) dX11_lots_51 (by decide) rfl rfl ?_
          exact wp_mask [true, true, false, true, false, true, false] rfl h
        · replace h := h.1 c8
          refine wp_bipush (v := (-2 : Int32)) dX11_lots_44 (by decide) ?_
          exact wp_iret (ty := .int) dX11_lots_46 rfl rfl h
      · replace h := h.1 c7
        refine wp_bipush (v := (-4 : Int32)) dX11_lots_30 (by decide) ?_
        exact wp_iret (ty := .int) dX11_lots_32 rfl rfl h
    · replace h := h.1 c6
      refine wp_iconst (v := (-1 : Int32)) dX11_lots_21 (by decide) ?_
      exact wp_iret (ty := .int) dX11_lots_22 rfl rfl h
abbrev C_X11_asked (G : Glob)  (M : Mem) (Q : Option Value → Mem → Prop) : Prop := WpM G 1 Y_X11_asked [.ref (ad G 71)] M Q
set_option maxRecDepth 20000 in
theorem v_X11_asked {G : Glob} {M : Mem} {Q : Option Value → Mem → Prop}  (h : Q (some (.int (M.1 71 0))) M) : C_X11_asked G  M Q := by
  refine wp_enter (ls0 := [some (.ref (ad G 71))]) (by decide +kernel) (Nat.le_of_ble_eq_true rfl) rfl ?_
  refine wp_aload_n dX11_asked_0 rfl rfl ?_
  refine wp_getI dX11_asked_1 rfl fb_11_0 m_4_155 ?_
  exact wp_iret (ty := .int) dX11_asked_4 rfl rfl h
abbrev C_X11_upper (G : Glob)  (M : Mem) (Q : Option Value → Mem → Prop) : Prop := WpM G 1 Y_X11_upper [.ref (ad G 71)] M Q
set_option maxRecDepth 20000 in
theorem v_X11_upper {G : Glob} {M : Mem} {Q : Option Value → Mem → Prop}  (h : Q (some (.long (M.2 71 1))) M) : C_X11_upper G  M Q := by
  refine wp_enter (ls0 := [some (.ref (ad G 71))]) (by decide +kernel) (Nat.le_of_ble_eq_true rfl) rfl ?_
  refine wp_aload_n dX11_upper_0 rfl rfl ?_
  refine wp_getL dX11_upper_1 rfl fb_11_1 m_4_156 ?_
  exact wp_lret dX11_upper_4 rfl h
abbrev C_X11_lower (G : Glob)  (M : Mem) (Q : Option Value → Mem → Prop) : Prop := WpM G 1 Y_X11_lower [.ref (ad G 71)] M Q
set_option maxRecDepth 20000 in
theorem v_X11_lower {G : Glob} {M : Mem} {Q : Option Value → Mem → Prop}  (h : Q (some (.long (M.2 71 2))) M) : C_X11_lower G  M Q := by
  refine wp_enter (ls0 := [some (.ref (ad G 71))]) (by decide +kernel) (Nat.le_of_ble_eq_true rfl) rfl ?_
  refine wp_aload_n dX11_lower_0 rfl rfl ?_
  refine wp_getL dX11_lower_1 rfl fb_11_2 m_4_157 ?_
  exact wp_lret dX11_lower_4 rfl h
abbrev P_X11_count_85 (G : Glob) (x2 : Int32) (x3 : Int32) (M : Mem) (Q : Option Value → Mem → Prop) : Prop := Wp G 2 Y_X11_count 85 [some (.ref (ad G 71)), none, some (.int x2), some (.int x3)] [] M Q
abbrev P_X11_count_112 (G : Glob) (x2 : Int32) (x3 : Int32) (M : Mem) (Q : Option Value → Mem → Prop) : Prop := Wp G 2 Y_X11_count 112 [some (.ref (ad G 71)), none, some (.int x2), some (.int x3)] [] M Q
abbrev P_X11_count_151 (G : Glob) (x2 : Int32) (x3 : Int32) (M : Mem) (Q : Option Value → Mem → Prop) : Prop := Wp G 2 Y_X11_count 151 [some (.ref (ad G 71)), none, some (.int x2), some (.int x3)] [] M Q
abbrev P_X11_count_184 (G : Glob) (x2 : Int32) (x3 : Int32) (M : Mem) (Q : Option Value → Mem → Prop) : Prop := Wp G 2 Y_X11_count 184 [some (.ref (ad G 71)), none, some (.int x2), some (.int x3)] [] M Q
abbrev P_X11_count_216 (G : Glob) (x2 : Int32) (x3 : Int32) (M : Mem) (Q : Option Value → Mem → Prop) : Prop := Wp G 2 Y_X11_count 216 [some (.ref (ad G 71)), none, some (.int x2), some (.int x3)] [] M Q
set_option maxRecDepth 20000 in
theorem v_X11_count_85 {G : Glob} {x2 : Int32} {x3 : Int32} {M : Mem} {Q : Option Value → Mem → Prop}  (h : ((x3 < (M.1 71 20) → (vp_in x3 8 ∧ (∀ y3 : Int32, y3 = (x2 + (M.1 87 x3.toNatClampNeg)) → P_X11_count_85 G y3 (x3 + 1) M Q))) ∧ (¬ x3 < (M.1 71 20) → Q (some (.int x2)) M))) : P_X11_count_85 G x2 x3 M Q := by
  refine wp_iload_n dX11_count_85 rfl rfl ?_
  refine wp_aload_n dX11_count_86 rfl rfl ?_
  refine wp_getI dX11_count_87 rfl fb_11_20 m_4_175 ?_
  refine wp_icmp_ge (tgt := 108) dX11_count_90 (by decide) (fun c1 => ?_) (fun c1 => ?_)
  · replace h := h.2 c1
    refine wp_iload_n dX11_count_108 rfl rfl ?_
    exact wp_iret (ty := .int) dX11_count_109 rfl rfl h
  · replace h := h.1 c1
    refine wp_iload_n dX11_count_93 rfl rfl ?_
    refine wp_aload_n dX11_count_94 rfl rfl ?_
    refine wp_getR (b := 87) dX11_count_95 rfl rfl fb_11_26 m_4_181 ?_
    refine wp_iload_n dX11_count_98 rfl rfl ?_
    obtain ⟨b2, h⟩ := h
    refine wp_iald (n := 8) dX11_count_99 rfl rfl b2 ?_
    refine wp_iadd dX11_count_100 ?_
    refine wp_topI (fun y3 hy3 => ?_)
    replace h := h y3 hy3
    refine wp_istore_n (ls' := [some (.ref (ad G 71)), none, some (.int y3), some (.int x3)]) dX11_count_101 rfl (by decide) rfl rfl ?_
    refine wp_iinc (v := (x3 + 1)) (ls' := [some (.ref (ad G 71)), none, some (.int y3), some (.int (x3 + 1))]) dX11_count_102 rfl rfl (by decide) rfl rfl ?_
    refine wp_goto (tgt := 85) dX11_count_105 (by decide) ?_
    exact h
set_option maxRecDepth 20000 in
theorem v_X11_count_112 {G : Glob} {x2 : Int32} {x3 : Int32} {M : Mem} {Q : Option Value → Mem → Prop}  (h : ((x3 < (M.1 71 20) → (vp_in x3 8 ∧ (WpM G 1 Y_X11_isOf [.int (M.1 82 x3.toNatClampNeg), .int 1] M (RI (fun r4 M3 => ((r4 = 0 → P_X11_count_112 G (x2 + 0) (x3 + 1) M3 Q) ∧ (¬ r4 = 0 → P_X11_count_112 G (x2 + 1) (x3 + 1) M3 Q))))))) ∧ (¬ x3 < (M.1 71 20) → Q (some (.int x2)) M))) : P_X11_count_112 G x2 x3 M Q := by
  refine wp_iload_n dX11_count_112 rfl rfl ?_
  refine wp_aload_n dX11_count_113 rfl rfl ?_
  refine wp_getI dX11_count_114 rfl fb_11_20 m_4_175 ?_
  refine wp_icmp_ge (tgt := 147) dX11_count_117 (by decide) (fun c1 => ?_) (fun c1 => ?_)
  · replace h := h.2 c1
    refine wp_iload_n dX11_count_147 rfl rfl ?_
    exact wp_iret (ty := .int) dX11_count_148 rfl rfl h
  · replace h := h.1 c1
    refine wp_iload_n dX11_count_120 rfl rfl ?_
    refine wp_aload_n dX11_count_121 rfl rfl ?_
    refine wp_getR (b := 82) dX11_count_122 rfl rfl fb_11_21 m_4_176 ?_
    refine wp_iload_n dX11_count_125 rfl rfl ?_
    obtain ⟨b2, h⟩ := h
    refine wp_iald (n := 8) dX11_count_126 rfl rfl b2 ?_
    refine wp_iconst (v := 1) dX11_count_127 (by decide) ?_
    refine wp_callSI (d1 := 1) (As := [.int (M.1 82 x3.toNatClampNeg), .int 1]) (st := [.int x2]) dX11_count_128 cm_X11_isOf m_5_137 (by decide) rfl (Nat.le_of_ble_eq_true rfl) rfl h ?_
    intro r4 M3 h
    refine wp_if_eq (tgt := 138) dX11_count_131 (by decide) (fun c5 => ?_) (fun c5 => ?_)
    · replace h := h.1 c5
      refine wp_iconst (v := 0) dX11_count_138 (by decide) ?_
      refine wp_iadd dX11_count_139 ?_
      refine wp_istore_n (ls' := [some (.ref (ad G 71)), none, some (.int (x2 + 0)), some (.int x3)]) dX11_count_140 rfl (by decide) rfl rfl ?_
      refine wp_iinc (v := (x3 + 1)) (ls' := [some (.ref (ad G 71)), none, some (.int (x2 + 0)), some (.int (x3 + 1))]) dX11_count_141 rfl rfl (by decide) rfl rfl ?_
      refine wp_goto (tgt := 112) dX11_count_144 (by decide) ?_
      exact h
    · replace h := h.2 c5
      refine wp_iconst (v := 1) dX11_count_134 (by decide) ?_
      refine wp_goto (tgt := 139) dX11_count_135 (by decide) ?_
      refine wp_iadd dX11_count_139 ?_
      refine wp_istore_n (ls' := [some (.ref (ad G 71)), none, some (.int (x2 + 1)), some (.int x3)]) dX11_count_140 rfl (by decide) rfl rfl ?_
      refine wp_iinc (v := (x3 + 1)) (ls' := [some (.ref (ad G 71)), none, some (.int (x2 + 1)), some (.int (x3 + 1))]) dX11_count_141 rfl rfl (by decide) rfl rfl ?_
      refine wp_goto (tgt := 112) dX11_count_144 (by decide) ?_
      exact h
set_option maxRecDepth 20000 in
theorem v_X11_count_151 {G : Glob} {x2 : Int32} {x3 : Int32} {M : Mem} {Q : Option Value → Mem → Prop}  (h : ((x3 < 6 → (vp_in x3 6 ∧ (((M.1 74 x3.toNatClampNeg) < 0 → P_X11_count_151 G (x2 + 0) (x3 + 1) M Q) ∧ (¬ (M.1 74 x3.toNatClampNeg) < 0 → P_X11_count_151 G (x2 + 1) (x3 + 1) M Q)))) ∧ (¬ x3 < 6 → Q (some (.int x2)) M))) : P_X11_count_151 G x2 x3 M Q := by
  refine wp_iload_n dX11_count_151 rfl rfl ?_
  refine wp_bipush (v := 6) dX11_count_152 (by decide) ?_
  refine wp_icmp_ge (tgt := 180) dX11_count_154 (by decide) (fun c1 => ?_) (fun c1 => ?_)
  · replace h := h.2 c1
    refine wp_iload_n dX11_count_180 rfl rfl ?_
    exact wp_iret (ty := .int) dX11_count_181 rfl rfl h
  · replace h := h.1 c1
    refine wp_iload_n dX11_count_157 rfl rfl ?_
    refine wp_aload_n dX11_count_158 rfl rfl ?_
    refine wp_getR (b := 74) dX11_count_159 rfl rfl fb_11_6 m_4_161 ?_
    refine wp_iload_n dX11_count_162 rfl rfl ?_
    obtain ⟨b2, h⟩ := h
    refine wp_iald (n := 6) dX11_count_163 rfl rfl b2 ?_
    refine wp_if_ge (tgt := 171) dX11_count_164 (by decide) (fun c3 => ?_) (fun c3 => ?_)
    · replace h := h.2 c3
      refine wp_iconst (v := 1) dX11_count_171 (by decide) ?_
      refine wp_iadd dX11_count_172 ?_
      refine wp_istore_n (ls' := [some (.ref (ad G 71)), none, some (.int (x2 + 1)), some (.int x3)]) dX11_count_173 rfl (by decide) rfl rfl ?_
      refine wp_iinc (v := (x3 + 1)) (ls' := [some (.ref (ad G 71)), none, some (.int (x2 + 1)), some (.int (x3 + 1))]) dX11_count_174 rfl rfl (by decide) rfl rfl ?_
      refine wp_goto (tgt := 151) dX11_count_177 (by decide) ?_
      exact h
    · replace h := h.1 c3
      refine wp_iconst (v := 0) dX11_count_167 (by decide) ?_
      refine wp_goto (tgt := 172) dX11_count_168 (by decide) ?_
      refine wp_iadd dX11_count_172 ?_
      refine wp_istore_n (ls' := [some (.ref (ad G 71)), none, some (.int (x2 + 0)), some (.int x3)]) dX11_count_173 rfl (by decide) rfl rfl ?_
      refine wp_iinc (v := (x3 + 1)) (ls' := [some (.ref (ad G 71)), none, some (.int (x2 + 0)), some (.int (x3 + 1))]) dX11_count_174 rfl rfl (by decide) rfl rfl ?_
      refine wp_goto (tgt := 151) dX11_count_177 (by decide) ?_
      exact h
set_option maxRecDepth 20000 in
theorem v_X11_count_184 {G : Glob} {x2 : Int32} {x3 : Int32} {M : Mem} {Q : Option Value → Mem → Prop}  (h : ((x3 < 4 → (vp_in x3 4 ∧ (((M.1 76 x3.toNatClampNeg) < 0 → P_X11_count_184 G (x2 + 0) (x3 + 1) M Q) ∧ (¬ (M.1 76 x3.toNatClampNeg) < 0 → P_X11_count_184 G (x2 + 1) (x3 + 1) M Q)))) ∧ (¬ x3 < 4 → Q (some (.int x2)) M))) : P_X11_count_184 G x2 x3 M Q := by
  refine wp_iload_n dX11_count_184 rfl rfl ?_
  refine wp_iconst (v := 4) dX11_count_185 (by decide) ?_
  refine wp_icmp_ge (tgt := 212) dX11_count_186 (by decide) (fun c1 => ?_) (fun c1 => ?_)
  · replace h := h.2 c1
    refine wp_iload_n dX11_count_212 rfl rfl ?_
    exact wp_iret (ty := .int) dX11_count_213 rfl rfl h
  · replace h := h.1 c1
    refine wp_iload_n dX11_count_189 rfl rfl ?_
    refine wp_aload_n dX11_count_190 rfl rfl ?_
    refine wp_getR (b := 76) dX11_count_191 rfl rfl fb_11_8 m_4_163 ?_
    refine wp_iload_n dX11_count_194 rfl rfl ?_
    obtain ⟨b2, h⟩ := h
    refine wp_iald (n := 4) dX11_count_195 rfl rfl b2 ?_
    refine wp_if_ge (tgt := 203) dX11_count_196 (by decide) (fun c3 => ?_) (fun c3 => ?_)
    · replace h := h.2 c3
      refine wp_iconst (v := 1) dX11_count_203 (by decide) ?_
      refine wp_iadd dX11_count_204 ?_
      refine wp_istore_n (ls' := [some (.ref (ad G 71)), none, some (.int (x2 + 1)), some (.int x3)]) dX11_count_205 rfl (by decide) rfl rfl ?_
      refine wp_iinc (v := (x3 + 1)) (ls' := [some (.ref (ad G 71)), none, some (.int (x2 + 1)), some (.int (x3 + 1))]) dX11_count_206 rfl rfl (by decide) rfl rfl ?_
      refine wp_goto (tgt := 184) dX11_count_209 (by decide) ?_
      exact h
    · replace h := h.1 c3
      refine wp_iconst (v := 0) dX11_count_199 (by decide) ?_
      refine wp_goto (tgt := 204) dX11_count_200 (by decide) ?_
      refine wp_iadd dX11_count_204 ?_
      refine wp_istore_n (ls' := [some (.ref (ad G 71)), none, some (.int (x2 + 0)), some (.int x3)]) dX11_count_205 rfl (by decide) rfl rfl ?_
      refine wp_iinc (v := (x3 + 1)) (ls' := [some (.ref (ad G 71)), none, some (.int (x2 + 0)), some (.int (x3 + 1))]) dX11_count_206 rfl rfl (by decide) rfl rfl ?_
      refine wp_goto (tgt := 184) dX11_count_209 (by decide) ?_
      exact h
set_option maxRecDepth 20000 in
theorem v_X11_count_216 {G : Glob} {x2 : Int32} {x3 : Int32} {M : Mem} {Q : Option Value → Mem → Prop}  (h : ((x3 < 3 → (vp_in x3 3 ∧ (((M.1 89 x3.toNatClampNeg) < 0 → P_X11_count_216 G (x2 + 0) (x3 + 1) M Q) ∧ (¬ (M.1 89 x3.toNatClampNeg) < 0 → P_X11_count_216 G (x2 + 1) (x3 + 1) M Q)))) ∧ (¬ x3 < 3 → Q (some (.int x2)) M))) : P_X11_count_216 G x2 x3 M Q := by
  refine wp_iload_n dX11_count_216 rfl rfl ?_
  refine wp_iconst (v := 3) dX11_count_217 (by decide) ?_
  refine wp_icmp_ge (tgt := 244) dX11_count_218 (by decide) (fun c1 => ?_) (fun c1 => ?_)
  · replace h := h.2 c1
    refine wp_iload_n dX11_count_244 rfl rfl ?_
    exact wp_iret (ty := .int) dX11_count_245 rfl rfl h
  · replace h := h.1 c1
    refine wp_iload_n dX11_count_221 rfl rfl ?_
    refine wp_aload_n dX11_count_222 rfl rfl ?_
    refine wp_getR (b := 89) dX11_count_223 rfl rfl fb_11_29 m_4_184 ?_
    refine wp_iload_n dX11_count_226 rfl rfl ?_
    obtain ⟨b2, h⟩ := h
    refine wp_iald (n := 3) dX11_count_227 rfl rfl b2 ?_
    refine wp_if_ge (tgt := 235) dX11_count_228 (by decide) (fun c3 => ?_) (fun c3 => ?_)
    · replace h := h.2 c3
      refine wp_iconst (v := 1) dX11_count_235 (by decide) ?_
      refine wp_iadd dX11_count_236 ?_
      refine wp_istore_n (ls' := [some (.ref (ad G 71)), none, some (.int (x2 + 1)), some (.int x3)]) dX11_count_237 rfl (by decide) rfl rfl ?_
      refine wp_iinc (v := (x3 + 1)) (ls' := [some (.ref (ad G 71)), none, some (.int (x2 + 1)), some (.int (x3 + 1))]) dX11_count_238 rfl rfl (by decide) rfl rfl ?_
      refine wp_goto (tgt := 216) dX11_count_241 (by decide) ?_
      exact h
    · replace h := h.1 c3
      refine wp_iconst (v := 0) dX11_count_231 (by decide) ?_
      refine wp_goto (tgt := 236) dX11_count_232 (by decide) ?_
      refine wp_iadd dX11_count_236 ?_
      refine wp_istore_n (ls' := [some (.ref (ad G 71)), none, some (.int (x2 + 0)), some (.int x3)]) dX11_count_237 rfl (by decide) rfl rfl ?_
      refine wp_iinc (v := (x3 + 1)) (ls' := [some (.ref (ad G 71)), none, some (.int (x2 + 0)), some (.int (x3 + 1))]) dX11_count_238 rfl rfl (by decide) rfl rfl ?_
      refine wp_goto (tgt := 216) dX11_count_241 (by decide) ?_
      exact h
abbrev C_X11_count (G : Glob) (x1 : Int32) (M : Mem) (Q : Option Value → Mem → Prop) : Prop := WpM G 2 Y_X11_count [.ref (ad G 71), .int x1] M Q
set_option maxRecDepth 20000 in
theorem v_X11_count {G : Glob} {x1 : Int32} {M : Mem} {Q : Option Value → Mem → Prop}  (h : ((x1 = 0 → Q (some (.int (M.1 71 20))) M) ∧ (¬ x1 = 0 → ((x1 = 1 → Q (some (.int (M.1 71 19))) M) ∧ (¬ x1 = 1 → ((x1 = 2 → Q (some (.int (M.1 71 27))) M) ∧ (¬ x1 = 2 → ((x1 = 3 → (WpM G 1 Y_X11_setIn [.ref (ad G 71), .int (x1 - 3)] M (RI (fun r2 M1 => Q (some (.int r2)) M1)))) ∧ (¬ x1 = 3 → ((x1 = 4 → (WpM G 1 Y_X11_setIn [.ref (ad G 71), .int (x1 - 3)] M (RI (fun r4 M3 => Q (some (.int r4)) M3)))) ∧ (¬ x1 = 4 → ((x1 = 5 → (WpM G 1 Y_X11_setIn [.ref (ad G 71), .int (x1 - 3)] M (RI (fun r6 M5 => Q (some (.int r6)) M5)))) ∧ (¬ x1 = 5 → ((x1 = 6 → P_X11_count_85 G 0 0 M Q) ∧ (¬ x1 = 6 → ((x1 = 7 → P_X11_count_112 G 0 0 M Q) ∧ (¬ x1 = 7 → ((x1 = 8 → P_X11_count_151 G 0 0 M Q) ∧ (¬ x1 = 8 → ((x1 = 9 → P_X11_count_184 G 0 0 M Q) ∧ (¬ x1 = 9 → ((x1 = 10 → P_X11_count_216 G 0 0 M Q) ∧ (¬ x1 = 10 → Q (some (.int (-1 : Int32))) M))))))))))))))))))))))) : C_X11_count G x1 M Q := by
  refine wp_enter (ls0 := [some (.ref (ad G 71)), some (.int x1), none, none]) (by decide +kernel) (Nat.le_of_ble_eq_true rfl) rfl ?_
  refine wp_iconst (v := 0) dX11_count_0 (by decide) ?_
  refine wp_istore_n (ls' := [some (.ref (ad G 71)), some (.int x1), some (.int 0), none]) dX11_count_1 rfl (by decide) rfl rfl ?_
  refine wp_iload_n dX11_count_2 rfl rfl ?_
  rcases Decidable.em (x1 = 0) with n0 | n0
  · replace h := h.1 n0
    refine wp_tswI (tgt := 60) (v := 0) dX11_count_3 n0 (by decide) (by decide) rfl (by decide) ?_
    refine wp_aload_n dX11_count_60 rfl rfl ?_
    refine wp_getI dX11_count_61 rfl fb_11_20 m_4_175 ?_
    exact wp_iret (ty := .int) dX11_count_64 rfl rfl h
  · replace h := h.2 n0
    rcases Decidable.em (x1 = 1) with n1 | n1
    · replace h := h.1 n1
      refine wp_tswI (tgt := 65) (v := 1) dX11_count_3 n1 (by decide) (by decide) rfl (by decide) ?_
      refine wp_aload_n dX11_count_65 rfl rfl ?_
      refine wp_getI dX11_count_66 rfl fb_11_19 m_4_174 ?_
      exact wp_iret (ty := .int) dX11_count_69 rfl rfl h
    · replace h := h.2 n1
      rcases Decidable.em (x1 = 2) with n2 | n2
      · replace h := h.1 n2
        refine wp_tswI (tgt := 70) (v := 2) dX11_count_3 n2 (by decide) (by decide) rfl (by decide) ?_
        refine wp_aload_n dX11_count_70 rfl rfl ?_
        refine wp_getI dX11_count_71 rfl fb_11_27 m_4_182 ?_
        exact wp_iret (ty := .int) dX11_count_74 rfl rfl h
      · replace h := h.2 n2
        rcases Decidable.em (x1 = 3) with n3 | n3
        · replace h := h.1 n3
          refine wp_tswI (tgt := 75) (v := 3) dX11_count_3 n3 (by decide) (by decide) rfl (by decide) ?_
          refine wp_aload_n dX11_count_75 rfl rfl ?_
          refine wp_iload_n dX11_count_76 rfl rfl ?_
          refine wp_iconst (v := 3) dX11_count_77 (by decide) ?_
          refine wp_isub dX11_count_78 ?_
          refine wp_callVI (a := 71) (d1 := 1) (As := [.int (x1 - 3)]) (st := []) dX11_count_79 rfl cm_X11_setIn m_5_175 (by decide) rfl (Nat.le_of_ble_eq_true rfl) rfl h ?_
          intro r2 M1 h
          exact wp_iret (ty := .int) dX11_count_82 rfl rfl h
        · replace h := h.2 n3
          rcases Decidable.em (x1 = 4) with n4 | n4
          · replace h := h.1 n4
            refine wp_tswI (tgt := 75) (v := 4) dX11_count_3 n4 (by decide) (by decide) rfl (by decide) ?_
            refine wp_aload_n dX11_count_75 rfl rfl ?_
            refine wp_iload_n dX11_count_76 rfl rfl ?_
            refine wp_iconst (v := 3) dX11_count_77 (by decide) ?_
            refine wp_isub dX11_count_78 ?_
            refine wp_callVI (a := 71) (d1 := 1) (As := [.int (x1 - 3)]) (st := []) dX11_count_79 rfl cm_X11_setIn m_5_175 (by decide) rfl (Nat.le_of_ble_eq_true rfl) rfl h ?_
            intro r4 M3 h
            exact wp_iret (ty := .int) dX11_count_82 rfl rfl h
          · replace h := h.2 n4
            rcases Decidable.em (x1 = 5) with n5 | n5
            · replace h := h.1 n5
              refine wp_tswI (tgt := 75) (v := 5) dX11_count_3 n5 (by decide) (by decide) rfl (by decide) ?_
              refine wp_aload_n dX11_count_75 rfl rfl ?_
              refine wp_iload_n dX11_count_76 rfl rfl ?_
              refine wp_iconst (v := 3) dX11_count_77 (by decide) ?_
              refine wp_isub dX11_count_78 ?_
              refine wp_callVI (a := 71) (d1 := 1) (As := [.int (x1 - 3)]) (st := []) dX11_count_79 rfl cm_X11_setIn m_5_175 (by decide) rfl (Nat.le_of_ble_eq_true rfl) rfl h ?_
              intro r6 M5 h
              exact wp_iret (ty := .int) dX11_count_82 rfl rfl h
            · replace h := h.2 n5
              rcases Decidable.em (x1 = 6) with n6 | n6
              · replace h := h.1 n6
                refine wp_tswI (tgt := 83) (v := 6) dX11_count_3 n6 (by decide) (by decide) rfl (by decide) ?_
                refine wp_iconst (v := 0) dX11_count_83 (by decide) ?_
                refine wp_istore_n (ls' := [some (.ref (ad G 71)), some (.int x1), some (.int 0), some (.int 0)]) dX11_count_84 rfl (by decide) rfl rfl ?_
                exact wp_mask [true, false, true, true] rfl h
              · replace h := h.2 n6
                rcases Decidable.em (x1 = 7) with n7 | n7
                · replace h := h.1 n7
                  refine wp_tswI (tgt := 110) (v := 7) dX11_count_3 n7 (by decide) (by decide) rfl (by decide) ?_
                  refine wp_iconst (v := 0) dX11_count_110 (by decide) ?_
                  refine wp_istore_n (ls' := [some (.ref (ad G 71)), some (.int x1), some (.int 0), some (.int 0)]) dX11_count_111 rfl (by decide) rfl rfl ?_
                  exact wp_mask [true, false, true, true] rfl h
                · replace h := h.2 n7
                  rcases Decidable.em (x1 = 8) with n8 | n8
                  · replace h := h.1 n8
                    refine wp_tswI (tgt := 149) (v := 8) dX11_count_3 n8 (by decide) (by decide) rfl (by decide) ?_
                    refine wp_iconst (v := 0) dX11_count_149 (by decide) ?_
                    refine wp_istore_n (ls' := [some (.ref (ad G 71)), some (.int x1), some (.int 0), some (.int 0)]) dX11_count_150 rfl (by decide) rfl rfl ?_
                    exact wp_mask [true, false, true, true] rfl h
                  · replace h := h.2 n8
                    rcases Decidable.em (x1 = 9) with n9 | n9
                    · replace h := h.1 n9
                      refine wp_tswI (tgt := 182) (v := 9) dX11_count_3 n9 (by decide) (by decide) rfl (by decide) ?_
                      refine wp_iconst (v := 0) dX11_count_182 (by decide) ?_
                      refine wp_istore_n (ls' := [some (.ref (ad G 71)), some (.int x1), some (.int 0), some (.int 0)]) dX11_count_183 rfl (by decide) rfl rfl ?_
                      exact wp_mask [true, false, true, true] rfl h
                    · replace h := h.2 n9
                      rcases Decidable.em (x1 = 10) with n10 | n10
                      · replace h := h.1 n10
                        refine wp_tswI (tgt := 214) (v := 10) dX11_count_3 n10 (by decide) (by decide) rfl (by decide) ?_
                        refine wp_iconst (v := 0) dX11_count_214 (by decide) ?_
                        refine wp_istore_n (ls' := [some (.ref (ad G 71)), some (.int x1), some (.int 0), some (.int 0)]) dX11_count_215 rfl (by decide) rfl rfl ?_
                        exact wp_mask [true, false, true, true] rfl h
                      · replace h := h.2 n10
                        refine wp_tswD (tgt := 246) dX11_count_3 (by have e0 : (x1 : Int32).toInt ≠ 0 := fun e => n0 (Int32.toInt_inj.mp e); have e1 : (x1 : Int32).toInt ≠ 1 := fun e => n1 (Int32.toInt_inj.mp e); have e2 : (x1 : Int32).toInt ≠ 2 := fun e => n2 (Int32.toInt_inj.mp e); have e3 : (x1 : Int32).toInt ≠ 3 := fun e => n3 (Int32.toInt_inj.mp e); have e4 : (x1 : Int32).toInt ≠ 4 := fun e => n4 (Int32.toInt_inj.mp e); have e5 : (x1 : Int32).toInt ≠ 5 := fun e => n5 (Int32.toInt_inj.mp e); have e6 : (x1 : Int32).toInt ≠ 6 := fun e => n6 (Int32.toInt_inj.mp e); have e7 : (x1 : Int32).toInt ≠ 7 := fun e => n7 (Int32.toInt_inj.mp e); have e8 : (x1 : Int32).toInt ≠ 8 := fun e => n8 (Int32.toInt_inj.mp e); have e9 : (x1 : Int32).toInt ≠ 9 := fun e => n9 (Int32.toInt_inj.mp e); have e10 : (x1 : Int32).toInt ≠ 10 := fun e => n10 (Int32.toInt_inj.mp e); omega) (by decide) ?_
                        refine wp_iconst (v := (-1 : Int32)) dX11_count_246 (by decide) ?_
                        exact wp_iret (ty := .int) dX11_count_247 rfl rfl h
abbrev C_X11_finding (G : Glob)  (M : Mem) (Q : Option Value → Mem → Prop) : Prop := WpM G 1 Y_X11_finding [.ref (ad G 71)] M Q
set_option maxRecDepth 20000 in
theorem v_X11_finding {G : Glob} {M : Mem} {Q : Option Value → Mem → Prop}  (h : Q (some (.int (M.1 71 3))) M) : C_X11_finding G  M Q := by
  refine wp_enter (ls0 := [some (.ref (ad G 71))]) (by decide +kernel) (Nat.le_of_ble_eq_true rfl) rfl ?_
  refine wp_aload_n dX11_finding_0 rfl rfl ?_
  refine wp_getI dX11_finding_1 rfl fb_11_3 m_4_158 ?_
  exact wp_iret (ty := .int) dX11_finding_4 rfl rfl h
abbrev C_X11_findings (G : Glob) (x1 : Int32) (M : Mem) (Q : Option Value → Mem → Prop) : Prop := WpM G 2 Y_X11_findings [.ref (ad G 71), .int x1] M Q
set_option maxRecDepth 20000 in
theorem v_X11_findings {G : Glob} {x1 : Int32} {M : Mem} {Q : Option Value → Mem → Prop}  (h : (WpM G 1 Y_X11_in [.int x1, .int 1, .int 5] M (RI (fun r2 M1 => ((r2 = 0 → Q (some (.int (-1 : Int32))) M1) ∧ (¬ r2 = 0 → (vp_in x1 6 ∧ Q (some (.int (M1.1 72 x1.toNatClampNeg))) M1))))))) : C_X11_findings G x1 M Q := by
  refine wp_enter (ls0 := [some (.ref (ad G 71)), some (.int x1)]) (by decide +kernel) (Nat.le_of_ble_eq_true rfl) rfl ?_
  refine wp_iload_n dX11_findings_0 rfl rfl ?_
  refine wp_iconst (v := 1) dX11_findings_1 (by decide) ?_
  refine wp_iconst (v := 5) dX11_findings_2 (by decide) ?_
  refine wp_callSI (d1 := 1) (As := [.int x1, .int 1, .int 5]) (st := []) dX11_findings_3 cm_X11_in m_5_32 (by decide) rfl (Nat.le_of_ble_eq_true rfl) rfl h ?_
  intro r2 M1 h
  refine wp_if_eq (tgt := 18) dX11_findings_6 (by decide) (fun c3 => ?_) (fun c3 => ?_)
  · replace h := h.1 c3
    refine wp_iconst (v := (-1 : Int32)) dX11_findings_18 (by decide) ?_
    exact wp_iret (ty := .int) dX11_findings_19 rfl rfl h
  · replace h := h.2 c3
    refine wp_aload_n dX11_findings_9 rfl rfl ?_
    refine wp_getR (b := 72) dX11_findings_10 rfl rfl fb_11_4 m_4_159 ?_
    refine wp_iload_n dX11_findings_13 rfl rfl ?_
    obtain ⟨b4, h⟩ := h
    refine wp_iald (n := 6) dX11_findings_14 rfl rfl b4 ?_
    refine wp_goto (tgt := 19) dX11_findings_15 (by decide) ?_
    exact wp_iret (ty := .int) dX11_findings_19 rfl rfl h
abbrev P_X11_digest_6 (G : Glob) (x1 : Int64) (x3 : Int32) (M : Mem) (Q : Option Value → Mem → Prop) : Prop := Wp G 3 Y_X11_digest 6 [some (.ref (ad G 71)), some (.long x1), none, some (.int x3), none] [] M Q
abbrev P_X11_digest_33 (G : Glob) (x1 : Int64) (x3 : Int32) (M : Mem) (Q : Option Value → Mem → Prop) : Prop := Wp G 3 Y_X11_digest 33 [some (.ref (ad G 71)), some (.long x1), none, some (.int x3), none] [] M Q
abbrev P_X11_digest_44 (G : Glob) (x1 : Int64) (x3 : Int32) (x4 : Int32) (M : Mem) (Q : Option Value → Mem → Prop) : Prop := Wp G 3 Y_X11_digest 44 [some (.ref (ad G 71)), some (.long x1), none, some (.int x3), some (.int x4)] [] M Q
abbrev P_X11_digest_80 (G : Glob) (x1 : Int64) (x3 : Int32) (M : Mem) (Q : Option Value → Mem → Prop) : Prop := Wp G 3 Y_X11_digest 80 [some (.ref (ad G 71)), some (.long x1), none, some (.int x3), none] [] M Q
abbrev P_X11_digest_107 (G : Glob) (x1 : Int64) (x3 : Int32) (M : Mem) (Q : Option Value → Mem → Prop) : Prop := Wp G 3 Y_X11_digest 107 [some (.ref (ad G 71)), some (.long x1), none, some (.int x3), none] [] M Q
abbrev P_X11_digest_130 (G : Glob) (x1 : Int64) (x3 : Int32) (x4 : Int32) (M : Mem) (Q : Option Value → Mem → Prop) : Prop := Wp G 3 Y_X11_digest 130 [some (.ref (ad G 71)), some (.long x1), none, some (.int x3), some (.int x4)] [] M Q
abbrev P_X11_digest_175 (G : Glob) (x1 : Int64) (x3 : Int32) (M : Mem) (Q : Option Value → Mem → Prop) : Prop := Wp G 3 Y_X11_digest 175 [some (.ref (ad G 71)), some (.long x1), none, some (.int x3), none] [] M Q
abbrev P_X11_digest_197 (G : Glob) (x1 : Int64) (x3 : Int32) (x4 : Int32) (M : Mem) (Q : Option Value → Mem → Prop) : Prop := Wp G 3 Y_X11_digest 197 [some (.ref (ad G 71)), some (.long x1), none, some (.int x3), some (.int x4)] [] M Q
set_option maxRecDepth 20000 in
theorem v_X11_digest_6 {G : Glob} {x1 : Int64} {x3 : Int32} {M : Mem} {Q : Option Value → Mem → Prop}  (h : (((10 : Int32) < x3 → P_X11_digest_33 G x1 0 M Q) ∧ (¬ (10 : Int32) < x3 → (WpM G 2 Y_X11_count [.ref (ad G 71), .int x3] M (RI (fun r3 M2 => P_X11_digest_6 G ((31 * x1) + r3.toInt64) (x3 + 1) M2 Q)))))) : P_X11_digest_6 G x1 x3 M Q := by
  refine wp_iload_n dX11_digest_6 rfl rfl ?_
  refine wp_bipush (v := 10) dX11_digest_7 (by decide) ?_
  refine wp_icmp_gt (tgt := 31) dX11_digest_9 (by decide) (fun c1 => ?_) (fun c1 => ?_)
  · replace h := h.1 c1
    refine wp_iconst (v := 0) dX11_digest_31 (by decide) ?_
    refine wp_istore_n (ls' := [some (.ref (ad G 71)), some (.long x1), none, some (.int 0), none]) dX11_digest_32 rfl (by decide) rfl rfl ?_
    exact h
  · replace h := h.2 c1
    refine wp_ldc2 (v := 31) m_6_129 dX11_digest_12 ?_
    refine wp_lload_n dX11_digest_15 rfl rfl ?_
    refine wp_lmul dX11_digest_16 ?_
    refine wp_aload_n dX11_digest_17 rfl rfl ?_
    refine wp_iload_n dX11_digest_18 rfl rfl ?_
    refine wp_callVI (a := 71) (d1 := 2) (As := [.int x3]) (st := [.long (31 * x1)]) dX11_digest_19 rfl cm_X11_count m_6_130 (by decide) rfl (Nat.le_of_ble_eq_true rfl) rfl h ?_
    intro r3 M2 h
    refine wp_i2l dX11_digest_22 ?_
    refine wp_ladd dX11_digest_23 ?_
    refine wp_lstore_n (ls' := [some (.ref (ad G 71)), some (.long ((31 * x1) + r3.toInt64)), none, some (.int x3), none]) dX11_digest_24 rfl (by decide) rfl rfl ?_
    refine wp_iinc (v := (x3 + 1)) (ls' := [some (.ref (ad G 71)), some (.long ((31 * x1) + r3.toInt64)), none, some (.int (x3 + 1)), none]) dX11_digest_25 rfl rfl (by decide) rfl rfl ?_
    refine wp_goto (tgt := 6) dX11_digest_28 (by decide) ?_
    exact h
set_option maxRecDepth 20000 in
theorem v_X11_digest_33 {G : Glob} {x1 : Int64} {x3 : Int32} {M : Mem} {Q : Option Value → Mem → Prop}  (h : ((x3 < (M.1 71 20) → P_X11_digest_44 G x1 x3 0 M Q) ∧ (¬ x3 < (M.1 71 20) → P_X11_digest_80 G x1 0 M Q))) : P_X11_digest_33 G x1 x3 M Q := by
  refine wp_iload_n dX11_digest_33 rfl rfl ?_
  refine wp_aload_n dX11_digest_34 rfl rfl ?_
  refine wp_getI dX11_digest_35 rfl fb_11_20 m_4_175 ?_
  refine wp_icmp_ge (tgt := 78) dX11_digest_38 (by decide) (fun c1 => ?_) (fun c1 => ?_)
  · replace h := h.2 c1
    refine wp_iconst (v := 0) dX11_digest_78 (by decide) ?_
    refine wp_istore_n (ls' := [some (.ref (ad G 71)), some (.long x1), none, some (.int 0), none]) dX11_digest_79 rfl (by decide) rfl rfl ?_
    exact h
  · replace h := h.1 c1
    refine wp_iconst (v := 0) dX11_digest_41 (by decide) ?_
    refine wp_istore (ls' := [some (.ref (ad G 71)), some (.long x1), none, some (.int x3), some (.int 0)]) dX11_digest_42 (by decide) rfl rfl ?_
    exact h
set_option maxRecDepth 20000 in
theorem v_X11_digest_44 {G : Glob} {x1 : Int64} {x3 : Int32} {x4 : Int32} {M : Mem} {Q : Option Value → Mem → Prop}  (h : (((6 : Int32) < x4 → P_X11_digest_33 G x1 (x3 + 1) M Q) ∧ (¬ (6 : Int32) < x4 → (WpM G 2 Y_X11_ofGlove [.ref (ad G 71), .int x3, .int x4] M (RI (fun r3 M2 => P_X11_digest_44 G ((31 * x1) + r3.toInt64) x3 (x4 + 1) M2 Q)))))) : P_X11_digest_44 G x1 x3 x4 M Q := by
  refine wp_iload dX11_digest_44 rfl ?_
  refine wp_bipush (v := 6) dX11_digest_46 (by decide) ?_
  refine wp_icmp_gt (tgt := 72) dX11_digest_48 (by decide) (fun c1 => ?_) (fun c1 => ?_)
  · replace h := h.1 c1
    refine wp_iinc (v := (x3 + 1)) (ls' := [some (.ref (ad G 71)), some (.long x1), none, some (.int (x3 + 1)), some (.int x4)]) dX11_digest_72 rfl rfl (by decide) rfl rfl ?_
    refine wp_goto (tgt := 33) dX11_digest_75 (by decide) ?_
    exact wp_mask [true, true, false, true, false] rfl h
  · replace h := h.2 c1
    refine wp_ldc2 (v := 31) m_6_129 dX11_digest_51 ?_
    refine wp_lload_n dX11_digest_54 rfl rfl ?_
    refine wp_lmul dX11_digest_55 ?_
    refine wp_aload_n dX11_digest_56 rfl rfl ?_
    refine wp_iload_n dX11_digest_57 rfl rfl ?_
    refine wp_iload dX11_digest_58 rfl ?_
    refine wp_callVI (a := 71) (d1 := 2) (As := [.int x3, .int x4]) (st := [.long (31 * x1)]) dX11_digest_60 rfl cm_X11_ofGlove m_5_125 (by decide) rfl (Nat.le_of_ble_eq_true rfl) rfl h ?_
    intro r3 M2 h
    refine wp_i2l dX11_digest_63 ?_
    refine wp_ladd dX11_digest_64 ?_
    refine wp_lstore_n (ls' := [some (.ref (ad G 71)), some (.long ((31 * x1) + r3.toInt64)), none, some (.int x3), some (.int x4)]) dX11_digest_65 rfl (by decide) rfl rfl ?_
    refine wp_iinc (v := (x4 + 1)) (ls' := [some (.ref (ad G 71)), some (.long ((31 * x1) + r3.toInt64)), none, some (.int x3), some (.int (x4 + 1))]) dX11_digest_66 rfl rfl (by decide) rfl rfl ?_
    refine wp_goto (tgt := 44) dX11_digest_69 (by decide) ?_
    exact h
set_option maxRecDepth 20000 in
theorem v_X11_digest_80 {G : Glob} {x1 : Int64} {x3 : Int32} {M : Mem} {Q : Option Value → Mem → Prop}  (h : ((x3 < 3 → (vp_in x3 3 ∧ (∀ y3 : Int64, y3 = ((31 * x1) + (M.1 89 x3.toNatClampNeg).toInt64) → P_X11_digest_80 G y3 (x3 + 1) M Q))) ∧ (¬ x3 < 3 → P_X11_digest_107 G x1 0 M Q))) : P_X11_digest_80 G x1 x3 M Q := by
  refine wp_iload_n dX11_digest_80 rfl rfl ?_
  refine wp_iconst (v := 3) dX11_digest_81 (by decide) ?_
  refine wp_icmp_ge (tgt := 105) dX11_digest_82 (by decide) (fun c1 => ?_) (fun c1 => ?_)
  · replace h := h.2 c1
    refine wp_iconst (v := 0) dX11_digest_105 (by decide) ?_
    refine wp_istore_n (ls' := [some (.ref (ad G 71)), some (.long x1), none, some (.int 0), none]) dX11_digest_106 rfl (by decide) rfl rfl ?_
    exact h
  · replace h := h.1 c1
    refine wp_ldc2 (v := 31) m_6_129 dX11_digest_85 ?_
    refine wp_lload_n dX11_digest_88 rfl rfl ?_
    refine wp_lmul dX11_digest_89 ?_
    refine wp_aload_n dX11_digest_90 rfl rfl ?_
    refine wp_getR (b := 89) dX11_digest_91 rfl rfl fb_11_29 m_4_184 ?_
    refine wp_iload_n dX11_digest_94 rfl rfl ?_
    obtain ⟨b2, h⟩ := h
    refine wp_iald (n := 3) dX11_digest_95 rfl rfl b2 ?_
    refine wp_i2l dX11_digest_96 ?_
    refine wp_ladd dX11_digest_97 ?_
    refine wp_topJ (fun y3 hy3 => ?_)
    replace h := h y3 hy3
    refine wp_lstore_n (ls' := [some (.ref (ad G 71)), some (.long y3), none, some (.int x3), none]) dX11_digest_98 rfl (by decide) rfl rfl ?_
    refine wp_iinc (v := (x3 + 1)) (ls' := [some (.ref (ad G 71)), some (.long y3), none, some (.int (x3 + 1)), none]) dX11_digest_99 rfl rfl (by decide) rfl rfl ?_
    refine wp_goto (tgt := 80) dX11_digest_102 (by decide) ?_
    exact h
set_option maxRecDepth 20000 in
theorem v_X11_digest_107 {G : Glob} {x1 : Int64} {x3 : Int32} {M : Mem} {Q : Option Value → Mem → Prop}  (h : ((x3 < 6 → (vp_in x3 6 ∧ (∀ y3 : Int64, y3 = ((31 * x1) + (M.1 74 x3.toNatClampNeg).toInt64) → P_X11_digest_130 G y3 x3 0 M Q))) ∧ (¬ x3 < 6 → P_X11_digest_175 G x1 0 M Q))) : P_X11_digest_107 G x1 x3 M Q := by
  refine wp_iload_n dX11_digest_107 rfl rfl ?_
  refine wp_bipush (v := 6) dX11_digest_108 (by decide) ?_
  refine wp_icmp_ge (tgt := 173) dX11_digest_110 (by decide) (fun c1 => ?_) (fun c1 => ?_)
  · replace h := h.2 c1
    refine wp_iconst (v := 0) dX11_digest_173 (by decide) ?_
    refine wp_istore_n (ls' := [some (.ref (ad G 71)), some (.long x1), none, some (.int 0), none]) dX11_digest_174 rfl (by decide) rfl rfl ?_
    exact h
  · replace h := h.1 c1
    refine wp_ldc2 (v := 31) m_6_129 dX11_digest_113 ?_
    refine wp_lload_n dX11_digest_116 rfl rfl ?_
    refine wp_lmul dX11_digest_117 ?_
    refine wp_aload_n dX11_digest_118 rfl rfl ?_
    refine wp_getR (b := 74) dX11_digest_119 rfl rfl fb_11_6 m_4_161 ?_
    refine wp_iload_n dX11_digest_122 rfl rfl ?_
    obtain ⟨b2, h⟩ := h
    refine wp_iald (n := 6) dX11_digest_123 rfl rfl b2 ?_
    refine wp_i2l dX11_digest_124 ?_
    refine wp_ladd dX11_digest_125 ?_
    refine wp_topJ (fun y3 hy3 => ?_)
    replace h := h y3 hy3
    refine wp_lstore_n (ls' := [some (.ref (ad G 71)), some (.long y3), none, some (.int x3), none]) dX11_digest_126 rfl (by decide) rfl rfl ?_
    refine wp_iconst (v := 0) dX11_digest_127 (by decide) ?_
    refine wp_istore (ls' := [some (.ref (ad G 71)), some (.long y3), none, some (.int x3), some (.int 0)]) dX11_digest_128 (by decide) rfl rfl ?_
    exact h
set_option maxRecDepth 20000 in
theorem v_X11_digest_130 {G : Glob} {x1 : Int64} {x3 : Int32} {x4 : Int32} {M : Mem} {Q : Option Value → Mem → Prop}  (h : (vp_in x3 6 ∧ ((x4 < (M.1 74 x3.toNatClampNeg) → (vp_in ((40 * x3) + x4) 240 ∧ (∀ y4 : Int64, y4 = ((31 * x1) + (M.1 73 ((40 * x3) + x4).toNatClampNeg).toInt64) → P_X11_digest_130 G y4 x3 (x4 + 1) M Q))) ∧ (¬ x4 < (M.1 74 x3.toNatClampNeg) → P_X11_digest_107 G x1 (x3 + 1) M Q)))) : P_X11_digest_130 G x1 x3 x4 M Q := by
  refine wp_iload dX11_digest_130 rfl ?_
  refine wp_aload_n dX11_digest_132 rfl rfl ?_
  refine wp_getR (b := 74) dX11_digest_133 rfl rfl fb_11_6 m_4_161 ?_
  refine wp_iload_n dX11_digest_136 rfl rfl ?_
  obtain ⟨b1, h⟩ := h
  refine wp_iald (n := 6) dX11_digest_137 rfl rfl b1 ?_
  refine wp_icmp_ge (tgt := 167) dX11_digest_138 (by decide) (fun c2 => ?_) (fun c2 => ?_)
  · replace h := h.2 c2
    refine wp_iinc (v := (x3 + 1)) (ls' := [some (.ref (ad G 71)), some (.long x1), none, some (.int (x3 + 1)), some (.int x4)]) dX11_digest_167 rfl rfl (by decide) rfl rfl ?_
    refine wp_goto (tgt := 107) dX11_digest_170 (by decide) ?_
    exact wp_mask [true, true, false, true, false] rfl h
  · replace h := h.1 c2
    refine wp_ldc2 (v := 31) m_6_129 dX11_digest_141 ?_
    refine wp_lload_n dX11_digest_144 rfl rfl ?_
    refine wp_lmul dX11_digest_145 ?_
    refine wp_aload_n dX11_digest_146 rfl rfl ?_
    refine wp_getR (b := 73) dX11_digest_147 rfl rfl fb_11_5 m_4_160 ?_
    refine wp_bipush (v := 40) dX11_digest_150 (by decide) ?_
    refine wp_iload_n dX11_digest_152 rfl rfl ?_
    refine wp_imul dX11_digest_153 ?_
    refine wp_iload dX11_digest_154 rfl ?_
    refine wp_iadd dX11_digest_156 ?_
    obtain ⟨b3, h⟩ := h
    refine wp_iald (n := 240) dX11_digest_157 rfl rfl b3 ?_
    refine wp_i2l dX11_digest_158 ?_
    refine wp_ladd dX11_digest_159 ?_
    refine wp_topJ (fun y4 hy4 => ?_)
    replace h := h y4 hy4
    refine wp_lstore_n (ls' := [some (.ref (ad G 71)), some (.long y4), none, some (.int x3), some (.int x4)]) dX11_digest_160 rfl (by decide) rfl rfl ?_
    refine wp_iinc (v := (x4 + 1)) (ls' := [some (.ref (ad G 71)), some (.long y4), none, some (.int x3), some (.int (x4 + 1))]) dX11_digest_161 rfl rfl (by decide) rfl rfl ?_
    refine wp_goto (tgt := 130) dX11_digest_164 (by decide) ?_
    exact h
set_option maxRecDepth 20000 in
theorem v_X11_digest_175 {G : Glob} {x1 : Int64} {x3 : Int32} {M : Mem} {Q : Option Value → Mem → Prop}  (h : ((x3 < 4 → (vp_in x3 4 ∧ (∀ y3 : Int64, y3 = ((31 * x1) + (M.1 76 x3.toNatClampNeg).toInt64) → P_X11_digest_197 G y3 x3 0 M Q))) ∧ (¬ x3 < 4 → Q (some (.long x1)) M))) : P_X11_digest_175 G x1 x3 M Q := by
  refine wp_iload_n dX11_digest_175 rfl rfl ?_
  refine wp_iconst (v := 4) dX11_digest_176 (by decide) ?_
  refine wp_icmp_ge (tgt := 240) dX11_digest_177 (by decide) (fun c1 => ?_) (fun c1 => ?_)
  · replace h := h.2 c1
    refine wp_lload_n dX11_digest_240 rfl rfl ?_
    exact wp_lret dX11_digest_241 rfl h
  · replace h := h.1 c1
    refine wp_ldc2 (v := 31) m_6_129 dX11_digest_180 ?_
    refine wp_lload_n dX11_digest_183 rfl rfl ?_
    refine wp_lmul dX11_digest_184 ?_
    refine wp_aload_n dX11_digest_185 rfl rfl ?_
    refine wp_getR (b := 76) dX11_digest_186 rfl rfl fb_11_8 m_4_163 ?_
    refine wp_iload_n dX11_digest_189 rfl rfl ?_
    obtain ⟨b2, h⟩ := h
    refine wp_iald (n := 4) dX11_digest_190 rfl rfl b2 ?_
    refine wp_i2l dX11_digest_191 ?_
    refine wp_ladd dX11_digest_192 ?_
    refine wp_topJ (fun y3 hy3 => ?_)
    replace h := h y3 hy3
    refine wp_lstore_n (ls' := [some (.ref (ad G 71)), some (.long y3), none, some (.int x3), none]) dX11_digest_193 rfl (by decide) rfl rfl ?_
    refine wp_iconst (v := 0) dX11_digest_194 (by decide) ?_
    refine wp_istore (ls' := [some (.ref (ad G 71)), some (.long y3), none, some (.int x3), some (.int 0)]) dX11_digest_195 (by decide) rfl rfl ?_
    exact h
set_option maxRecDepth 20000 in
theorem v_X11_digest_197 {G : Glob} {x1 : Int64} {x3 : Int32} {x4 : Int32} {M : Mem} {Q : Option Value → Mem → Prop}  (h : (vp_in x3 4 ∧ ((x4 < (M.1 76 x3.toNatClampNeg) → (vp_in ((60 * x3) + x4) 240 ∧ (∀ y4 : Int64, y4 = ((31 * x1) + (M.1 75 ((60 * x3) + x4).toNatClampNeg).toInt64) → P_X11_digest_197 G y4 x3 (x4 + 1) M Q))) ∧ (¬ x4 < (M.1 76 x3.toNatClampNeg) → P_X11_digest_175 G x1 (x3 + 1) M Q)))) : P_X11_digest_197 G x1 x3 x4 M Q := by
  refine wp_iload dX11_digest_197 rfl ?_
  refine wp_aload_n dX11_digest_199 rfl rfl ?_
  refine wp_getR (b := 76) dX11_digest_200 rfl rfl fb_11_8 m_4_163 ?_
  refine wp_iload_n dX11_digest_203 rfl rfl ?_
  obtain ⟨b1, h⟩ := h
  refine wp_iald (n := 4) dX11_digest_204 rfl rfl b1 ?_
  refine wp_icmp_ge (tgt := 234) dX11_digest_205 (by decide) (fun c2 => ?_) (fun c2 => ?_)
  · replace h := h.2 c2
    refine wp_iinc (v := (x3 + 1)) (ls' := [some (.ref (ad G 71)), some (.long x1), none, some (.int (x3 + 1)), some (.int x4)]) dX11_digest_234 rfl rfl (by decide) rfl rfl ?_
    refine wp_goto (tgt := 175) dX11_digest_237 (by decide) ?_
    exact wp_mask [true, true, false, true, false] rfl h
  · replace h := h.1 c2
    refine wp_ldc2 (v := 31) m_6_129 dX11_digest_208 ?_
    refine wp_lload_n dX11_digest_211 rfl rfl ?_
    refine wp_lmul dX11_digest_212 ?_
    refine wp_aload_n dX11_digest_213 rfl rfl ?_
    refine wp_getR (b := 75) dX11_digest_214 rfl rfl fb_11_7 m_4_162 ?_
    refine wp_bipush (v := 60) dX11_digest_217 (by decide) ?_
    refine wp_iload_n dX11_digest_219 rfl rfl ?_
    refine wp_imul dX11_digest_220 ?_
    refine wp_iload dX11_digest_221 rfl ?_
    refine wp_iadd dX11_digest_223 ?_
    obtain ⟨b3, h⟩ := h
    refine wp_bald (n := 240) dX11_digest_224 rfl rfl b3 ?_
    refine wp_i2l dX11_digest_225 ?_
    refine wp_ladd dX11_digest_226 ?_
    refine wp_topJ (fun y4 hy4 => ?_)
    replace h := h y4 hy4
    refine wp_lstore_n (ls' := [some (.ref (ad G 71)), some (.long y4), none, some (.int x3), some (.int x4)]) dX11_digest_227 rfl (by decide) rfl rfl ?_
    refine wp_iinc (v := (x4 + 1)) (ls' := [some (.ref (ad G 71)), some (.long y4), none, some (.int x3), some (.int (x4 + 1))]) dX11_digest_228 rfl rfl (by decide) rfl rfl ?_
    refine wp_goto (tgt := 197) dX11_digest_231 (by decide) ?_
    exact h
abbrev C_X11_digest (G : Glob)  (M : Mem) (Q : Option Value → Mem → Prop) : Prop := WpM G 3 Y_X11_digest [.ref (ad G 71)] M Q
set_option maxRecDepth 20000 in
theorem v_X11_digest {G : Glob} {M : Mem} {Q : Option Value → Mem → Prop}  (h : P_X11_digest_6 G 17 0 M Q) : C_X11_digest G  M Q := by
  refine wp_enter (ls0 := [some (.ref (ad G 71)), none, none, none, none]) (by decide +kernel) (Nat.le_of_ble_eq_true rfl) rfl ?_
  refine wp_ldc2 (v := 17) m_6_128 dX11_digest_0 ?_
  refine wp_lstore_n (ls' := [some (.ref (ad G 71)), some (.long 17), none, none, none]) dX11_digest_3 rfl (by decide) rfl rfl ?_
  refine wp_iconst (v := 0) dX11_digest_4 (by decide) ?_
  refine wp_istore_n (ls' := [some (.ref (ad G 71)), some (.long 17), none, some (.int 0), none]) dX11_digest_5 rfl (by decide) rfl rfl ?_
  exact h
