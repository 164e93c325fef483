abbrev C_X10_row (G : Glob) (x1 : Int32) (x2 : Int32) (M : Mem) (Q : Option Value → Mem → Prop) : Prop := WpM G 3 Y_X10_row [.ref (ad G 0), .int x1, .int x2] M Q
set_option maxRecDepth 20000 in
theorem v_X10_row {G : Glob} {x1 : Int32} {x2 : Int32} {M : Mem} {Q : Option Value → Mem → Prop}  (h : (WpM G 1 Y_X9_isNumber [.ref (ad G 1), .int x1] M (RI (fun r2 M1 => ((r2 = 0 → Q (some (.int (-1 : Int32))) M1) ∧ (¬ r2 = 0 → (((40 : Int32) < x2 → Q (some (.int (-1 : Int32))) M1) ∧ (¬ (40 : Int32) < x2 → ((x2 < 0 → (WpM G 1 Y_X10_finds [.ref (ad G 0), .int 5] M1 (RI (fun r8 M7 => Q (some (.int r8)) M7)))) ∧ (¬ x2 < 0 → (WpM G 2 Y_X9_begin [.ref (ad G 1), .int x1, .int x2] M1 (RV (fun M6 => Q (some (.int x2)) M6))))))))))))) : C_X10_row G x1 x2 M Q := by
  refine wp_enter (ls0 := [some (.ref (ad G 0)), some (.int x1), some (.int x2)]) (by decide +kernel) (Nat.le_of_ble_eq_true rfl) rfl ?_
  refine wp_aload_n dX10_row_0 rfl rfl ?_
  refine wp_getR (b := 1) dX10_row_1 rfl rfl fb_10_0 m_2_30 ?_
  refine wp_iload_n dX10_row_4 rfl rfl ?_
  refine wp_callVI (a := 1) (d1 := 1) (As := [.int x1]) (st := []) dX10_row_5 rfl cm_X9_isNumber m_3_66 (by decide) rfl (Nat.le_of_ble_eq_true rfl) rfl h ?_
  intro r2 M1 h
  refine wp_if_eq (tgt := 17) dX10_row_8 (by decide) (fun c3 => ?_) (fun c3 => ?_)
  · replace h := h.1 c3
    refine wp_iconst (v := (-1 : Int32)) dX10_row_17 (by decide) ?_
    exact wp_iret (ty := .int) dX10_row_18 rfl rfl h
  · replace h := h.2 c3
    refine wp_iload_n dX10_row_11 rfl rfl ?_
    refine wp_bipush (v := 40) dX10_row_12 (by decide) ?_
    refine wp_icmp_le (tgt := 19) dX10_row_14 (by decide) (fun c4 => ?_) (fun c4 => ?_)
    · replace h := h.2 c4
      refine wp_iload_n dX10_row_19 rfl rfl ?_
      refine wp_if_ge (tgt := 29) dX10_row_20 (by decide) (fun c5 => ?_) (fun c5 => ?_)
      · replace h := h.2 c5
        refine wp_aload_n dX10_row_29 rfl rfl ?_
        refine wp_getR (b := 1) dX10_row_30 rfl rfl fb_10_0 m_2_30 ?_
        refine wp_iload_n dX10_row_33 rfl rfl ?_
        refine wp_iload_n dX10_row_34 rfl rfl ?_
        refine wp_callVV (a := 1) (d1 := 2) (As := [.int x1, .int x2]) (st := []) dX10_row_35 rfl cm_X9_begin m_3_67 (by decide) rfl (Nat.le_of_ble_eq_true rfl) rfl h ?_
        intro M6 h
        refine wp_iload_n dX10_row_38 rfl rfl ?_
        exact wp_iret (ty := .int) dX10_row_39 rfl rfl h
      · replace h := h.1 c5
        refine wp_aload_n dX10_row_23 rfl rfl ?_
        refine wp_iconst (v := 5) dX10_row_24 (by decide) ?_
        refine wp_callVI (a := 0) (d1 := 1) (As := [.int 5]) (st := []) dX10_row_25 rfl cm_X10_finds m_2_174 (by decide) rfl (Nat.le_of_ble_eq_true rfl) rfl h ?_
        intro r8 M7 h
        exact wp_iret (ty := .int) dX10_row_28 rfl rfl h
    · replace h := h.1 c4
      refine wp_iconst (v := (-1 : Int32)) dX10_row_17 (by decide) ?_
      exact wp_iret (ty := .int) dX10_row_18 rfl rfl h
abbrev C_X10_lay (G : Glob) (x1 : Int32) (x2 : Int32) (x3 : Int32) (M : Mem) (Q : Option Value → Mem → Prop) : Prop := WpM G 6 Y_X10_lay [.ref (ad G 0), .int x1, .int x2, .int x3] M Q
set_option maxRecDepth 20000 in
theorem v_X10_lay {G : Glob} {x1 : Int32} {x2 : Int32} {x3 : Int32} {M : Mem} {Q : Option Value → Mem → Prop}  (h : (WpM G 5 Y_X10_refusedPlace [.ref (ad G 0), .int x1, .int x2] M (RI (fun r2 M1 => ((r2 = 0 → (WpM G 4 Y_X9_read [.ref (ad G 1), .int x1, .int x2] M1 (RI (fun r5 M4 => (WpM G 4 Y_X9_write [.ref (ad G 1), .int x1, .int x2, .int x3] M4 (RV (fun M6 => (WpM G 1 Y_X10_tells [.ref (ad G 0), .int r5] M6 (RI (fun r8 M7 => Q (some (.int r8)) M7)))))))))) ∧ (¬ r2 = 0 → Q (some (.int r2)) M1)))))) : C_X10_lay G x1 x2 x3 M Q := by
  refine wp_enter (ls0 := [some (.ref (ad G 0)), some (.int x1), some (.int x2), some (.int x3), none, none]) (by decide +kernel) (Nat.le_of_ble_eq_true rfl) rfl ?_
  refine wp_aload_n dX10_lay_0 rfl rfl ?_
  refine wp_iload_n dX10_lay_1 rfl rfl ?_
  refine wp_iload_n dX10_lay_2 rfl rfl ?_
  refine wp_callVI (a := 0) (d1 := 5) (As := [.int x1, .int x2]) (st := []) dX10_lay_3 rfl cm_X10_refusedPlace m_3_75 (by decide) rfl (Nat.le_of_ble_eq_true rfl) rfl h ?_
  intro r2 M1 h
  refine wp_istore (ls' := [some (.ref (ad G 0)), some (.int x1), some (.int x2), some (.int x3), some (.int r2), none]) dX10_lay_6 (by decide) rfl rfl ?_
  refine wp_iload dX10_lay_8 rfl ?_
  refine wp_if_eq (tgt := 16) dX10_lay_10 (by decide) (fun c3 => ?_) (fun c3 => ?_)
  · replace h := h.1 c3
    refine wp_aload_n dX10_lay_16 rfl rfl ?_
    refine wp_getR (b := 1) dX10_lay_17 rfl rfl fb_10_0 m_2_30 ?_
    refine wp_iload_n dX10_lay_20 rfl rfl ?_
    refine wp_iload_n dX10_lay_21 rfl rfl ?_
    refine wp_callVI (a := 1) (d1 := 4) (As := [.int x1, .int x2]) (st := []) dX10_lay_22 rfl cm_X9_read m_3_85 (by decide) rfl (Nat.le_of_ble_eq_true rfl) rfl h ?_
    intro r5 M4 h
    refine wp_istore (ls' := [some (.ref (ad G 0)), some (.int x1), some (.int x2), some (.int x3), some (.int r2), some (.int r5)]) dX10_lay_25 (by decide) rfl rfl ?_
    refine wp_aload_n dX10_lay_27 rfl rfl ?_
    refine wp_getR (b := 1) dX10_lay_28 rfl rfl fb_10_0 m_2_30 ?_
    refine wp_iload_n dX10_lay_31 rfl rfl ?_
    refine wp_iload_n dX10_lay_32 rfl rfl ?_
    refine wp_iload_n dX10_lay_33 rfl rfl ?_
    refine wp_callVV (a := 1) (d1 := 4) (As := [.int x1, .int x2, .int x3]) (st := []) dX10_lay_34 rfl cm_X9_write m_3_86 (by decide) rfl (Nat.le_of_ble_eq_true rfl) rfl h ?_
    intro M6 h
    refine wp_aload_n dX10_lay_37 rfl rfl ?_
    refine wp_iload dX10_lay_38 rfl ?_
    refine wp_callVI (a := 0) (d1 := 1) (As := [.int r5]) (st := []) dX10_lay_40 rfl cm_X10_tells m_3_90 (by decide) rfl (Nat.le_of_ble_eq_true rfl) rfl h ?_
    intro r8 M7 h
    exact wp_iret (ty := .int) dX10_lay_43 rfl rfl h
  · replace h := h.2 c3
    refine wp_iload dX10_lay_13 rfl ?_
    exact wp_iret (ty := .int) dX10_lay_15 rfl rfl h
abbrev C_X10_at (G : Glob) (x1 : Int32) (x2 : Int32) (M : Mem) (Q : Option Value → Mem → Prop) : Prop := WpM G 6 Y_X10_at [.ref (ad G 0), .int x1, .int x2] M Q
set_option maxRecDepth 20000 in
theorem v_X10_at {G : Glob} {x1 : Int32} {x2 : Int32} {M : Mem} {Q : Option Value → Mem → Prop}  (h : (WpM G 5 Y_X10_refusedPlace [.ref (ad G 0), .int x1, .int x2] M (RI (fun r2 M1 => ((r2 = 0 → (WpM G 4 Y_X9_read [.ref (ad G 1), .int x1, .int x2] M1 (RI (fun r5 M4 => (WpM G 1 Y_X10_tells [.ref (ad G 0), .int r5] M4 (RI (fun r7 M6 => Q (some (.int r7)) M6))))))) ∧ (¬ r2 = 0 → Q (some (.int r2)) M1)))))) : C_X10_at G x1 x2 M Q := by
  refine wp_enter (ls0 := [some (.ref (ad G 0)), some (.int x1), some (.int x2), none]) (by decide +kernel) (Nat.le_of_ble_eq_true rfl) rfl ?_
  refine wp_aload_n dX10_at_0 rfl rfl ?_
  refine wp_iload_n dX10_at_1 rfl rfl ?_
  refine wp_iload_n dX10_at_2 rfl rfl ?_
  refine wp_callVI (a := 0) (d1 := 5) (As := [.int x1, .int x2]) (st := []) dX10_at_3 rfl cm_X10_refusedPlace m_3_75 (by decide) rfl (Nat.le_of_ble_eq_true rfl) rfl h ?_
  intro r2 M1 h
  refine wp_istore_n (ls' := [some (.ref (ad G 0)), some (.int x1), some (.int x2), some (.int r2)]) dX10_at_6 rfl (by decide) rfl rfl ?_
  refine wp_iload_n dX10_at_7 rfl rfl ?_
  refine wp_if_eq (tgt := 13) dX10_at_8 (by decide) (fun c3 => ?_) (fun c3 => ?_)
  · replace h := h.1 c3
    refine wp_aload_n dX10_at_13 rfl rfl ?_
    refine wp_aload_n dX10_at_14 rfl rfl ?_
    refine wp_getR (b := 1) dX10_at_15 rfl rfl fb_10_0 m_2_30 ?_
    refine wp_iload_n dX10_at_18 rfl rfl ?_
    refine wp_iload_n dX10_at_19 rfl rfl ?_
    refine wp_callVI (a := 1) (d1 := 4) (As := [.int x1, .int x2]) (st := [.ref (ad G 0)]) dX10_at_20 rfl cm_X9_read m_3_85 (by decide) rfl (Nat.le_of_ble_eq_true rfl) rfl h ?_
    intro r5 M4 h
    refine wp_callVI (a := 0) (d1 := 1) (As := [.int r5]) (st := []) dX10_at_23 rfl cm_X10_tells m_3_90 (by decide) rfl (Nat.le_of_ble_eq_true rfl) rfl h ?_
    intro r7 M6 h
    exact wp_iret (ty := .int) dX10_at_26 rfl rfl h
  · replace h := h.2 c3
    refine wp_iload_n dX10_at_11 rfl rfl ?_
    exact wp_iret (ty := .int) dX10_at_12 rfl rfl h
abbrev C_X10_tear (G : Glob) (x1 : Int32) (M : Mem) (Q : Option Value → Mem → Prop) : Prop := WpM G 5 Y_X10_tear [.ref (ad G 0), .int x1] M Q
set_option maxRecDepth 20000 in
theorem v_X10_tear {G : Glob} {x1 : Int32} {M : Mem} {Q : Option Value → Mem → Prop}  (h : (WpM G 4 Y_X10_refusedRow [.ref (ad G 0), .int x1] M (RI (fun r2 M1 => ((r2 = 0 → (WpM G 2 Y_X9_drop [.ref (ad G 1), .int x1] M1 (RV (fun M4 => Q (some (.int 1)) M4)))) ∧ (¬ r2 = 0 → Q (some (.int r2)) M1)))))) : C_X10_tear G x1 M Q := by
  refine wp_enter (ls0 := [some (.ref (ad G 0)), some (.int x1), none]) (by decide +kernel) (Nat.le_of_ble_eq_true rfl) rfl ?_
  refine wp_aload_n dX10_tear_0 rfl rfl ?_
  refine wp_iload_n dX10_tear_1 rfl rfl ?_
  refine wp_callVI (a := 0) (d1 := 4) (As := [.int x1]) (st := []) dX10_tear_2 rfl cm_X10_refusedRow m_3_79 (by decide) rfl (Nat.le_of_ble_eq_true rfl) rfl h ?_
  intro r2 M1 h
  refine wp_istore_n (ls' := [some (.ref (ad G 0)), some (.int x1), some (.int r2)]) dX10_tear_5 rfl (by decide) rfl rfl ?_
  refine wp_iload_n dX10_tear_6 rfl rfl ?_
  refine wp_if_eq (tgt := 12) dX10_tear_7 (by decide) (fun c3 => ?_) (fun c3 => ?_)
  · replace h := h.1 c3
    refine wp_aload_n dX10_tear_12 rfl rfl ?_
    refine wp_getR (b := 1) dX10_tear_13 rfl rfl fb_10_0 m_2_30 ?_
    refine wp_iload_n dX10_tear_16 rfl rfl ?_
    refine wp_callVV (a := 1) (d1 := 2) (As := [.int x1]) (st := []) dX10_tear_17 rfl cm_X9_drop m_3_102 (by decide) rfl (Nat.le_of_ble_eq_true rfl) rfl h ?_
    intro M4 h
    refine wp_iconst (v := 1) dX10_tear_20 (by decide) ?_
    exact wp_iret (ty := .int) dX10_tear_21 rfl rfl h
  · replace h := h.2 c3
    refine wp_iload_n dX10_tear_10 rfl rfl ?_
    exact wp_iret (ty := .int) dX10_tear_11 rfl rfl h
abbrev C_X10_copy (G : Glob) (x1 : Int32) (x2 : Int32) (x3 : Int32) (x4 : Int32) (x5 : Int32) (M : Mem) (Q : Option Value → Mem → Prop) : Prop := WpM G 5 Y_X10_copy [.ref (ad G 0), .int x1, .int x2, .int x3, .int x4, .int x5] M Q
set_option maxRecDepth 20000 in
theorem v_X10_copy {G : Glob} {x1 : Int32} {x2 : Int32} {x3 : Int32} {x4 : Int32} {x5 : Int32} {M : Mem} {Q : Option Value → Mem → Prop}  (h : (WpM G 1 Y_X9_isNumber [.ref (ad G 1), .int x1] M (RI (fun r2 M1 => ((r2 = 0 → Q (some (.int (-1 : Int32))) M1) ∧ (¬ r2 = 0 → (WpM G 1 Y_X9_isNumber [.ref (ad G 1), .int x3] M1 (RI (fun r5 M4 => ((r5 = 0 → Q (some (.int (-1 : Int32))) M4) ∧ (¬ r5 = 0 → ((x5 < 0 → (WpM G 1 Y_X10_finds [.ref (ad G 0), .int 5] M4 (RI (fun r30 M29 => Q (some (.int r30)) M29)))) ∧ (¬ x5 < 0 → (WpM G 3 Y_X9_isThere [.ref (ad G 1), .int x1] M4 (RI (fun r9 M8 => ((r9 = 0 → (WpM G 1 Y_X10_finds [.ref (ad G 0), .int 1] M8 (RI (fun r12 M11 => Q (some (.int r12)) M11)))) ∧ (¬ r9 = 0 → (WpM G 3 Y_X9_isThere [.ref (ad G 1), .int x3] M8 (RI (fun r14 M13 => ((r14 = 0 → (WpM G 1 Y_X10_finds [.ref (ad G 0), .int 1] M13 (RI (fun r28 M27 => Q (some (.int r28)) M27)))) ∧ (¬ r14 = 0 → (WpM G 3 Y_X9_reaches [.ref (ad G 1), .int x1, .int x2, .int x5] M13 (RI (fun r17 M16 => ((r17 = 0 → (WpM G 1 Y_X10_finds [.ref (ad G 0), .int 2] M16 (RI (fun r20 M19 => Q (some (.int r20)) M19)))) ∧ (¬ r17 = 0 → (WpM G 3 Y_X9_reaches [.ref (ad G 1), .int x3, .int x4, .int x5] M16 (RI (fun r22 M21 => ((r22 = 0 → (WpM G 1 Y_X10_finds [.ref (ad G 0), .int 2] M21 (RI (fun r26 M25 => Q (some (.int r26)) M25)))) ∧ (¬ r22 = 0 → (WpM G 4 Y_X9_move [.ref (ad G 1), .int x1, .int x2, .int x3, .int x4, .int x5] M21 (RV (fun M24 => Q (some (.int 1)) M24)))))))))))))))))))))))))))))))))))) : C_X10_copy G x1 x2 x3 x4 x5 M Q := by
  refine wp_enter (ls0 := [some (.ref (ad G 0)), some (.int x1), some (.int x2), some (.int x3), some (.int x4), some (.int x5)]) (by decide +kernel) (Nat.le_of_ble_eq_true rfl) rfl ?_
  refine wp_aload_n dX10_copy_0 rfl rfl ?_
  refine wp_getR (b := 1) dX10_copy_1 rfl rfl fb_10_0 m_2_30 ?_
  refine wp_iload_n dX10_copy_4 rfl rfl ?_
  refine wp_callVI (a := 1) (d1 := 1) (As := [.int x1]) (st := []) dX10_copy_5 rfl cm_X9_isNumber m_3_66 (by decide) rfl (Nat.le_of_ble_eq_true rfl) rfl h ?_
  intro r2 M1 h
  refine wp_if_eq (tgt := 22) dX10_copy_8 (by decide) (fun c3 => ?_) (fun c3 => ?_)
  · replace h := h.1 c3
    refine wp_iconst (v := (-1 : Int32)) dX10_copy_22 (by decide) ?_
    exact wp_iret (ty := .int) dX10_copy_23 rfl rfl h
  · replace h := h.2 c3
    refine wp_aload_n dX10_copy_11 rfl rfl ?_
    refine wp_getR (b := 1) dX10_copy_12 rfl rfl fb_10_0 m_2_30 ?_
    refine wp_iload_n dX10_copy_15 rfl rfl ?_
    refine wp_callVI (a := 1) (d1 := 1) (As := [.int x3]) (st := []) dX10_copy_16 rfl cm_X9_isNumber m_3_66 (by decide) rfl (Nat.le_of_ble_eq_true rfl) rfl h ?_
    intro r5 M4 h
    refine wp_if_ne (tgt := 24) dX10_copy_19 (by decide) (fun c6 => ?_) (fun c6 => ?_)
    · replace h := h.2 c6
      refine wp_iload dX10_copy_24 rfl ?_
      refine wp_if_ge (tgt := 35) dX10_copy_26 (by decide) (fun c7 => ?_) (fun c7 => ?_)
      · replace h := h.2 c7
        refine wp_aload_n dX10_copy_35 rfl rfl ?_
        refine wp_getR (b := 1) dX10_copy_36 rfl rfl fb_10_0 m_2_30 ?_
        refine wp_iload_n dX10_copy_39 rfl rfl ?_
        refine wp_callVI (a := 1) (d1 := 3) (As := [.int x1]) (st := []) dX10_copy_40 rfl cm_X9_isThere m_3_83 (by decide) rfl (Nat.le_of_ble_eq_true rfl) rfl h ?_
        intro r9 M8 h
        refine wp_if_eq (tgt := 57) dX10_copy_43 (by decide) (fun c10 => ?_) (fun c10 => ?_)
        · replace h := h.1 c10
          refine wp_aload_n dX10_copy_57 rfl rfl ?_
          refine wp_iconst (v := 1) dX10_copy_58 (by decide) ?_
          refine wp_callVI (a := 0) (d1 := 1) (As := [.int 1]) (st := []) dX10_copy_59 rfl cm_X10_finds m_2_174 (by decide) rfl (Nat.le_of_ble_eq_true rfl) rfl h ?_
          intro r12 M11 h
          exact wp_iret (ty := .int) dX10_copy_62 rfl rfl h
        · replace h := h.2 c10
          refine wp_aload_n dX10_copy_46 rfl rfl ?_
          refine wp_getR (b := 1) dX10_copy_47 rfl rfl fb_10_0 m_2_30 ?_
          refine wp_iload_n dX10_copy_50 rfl rfl ?_
          refine wp_callVI (a := 1) (d1 := 3) (As := [.int x3]) (st := []) dX10_copy_51 rfl cm_X9_isThere m_3_83 (by decide) rfl (Nat.le_of_ble_eq_true rfl) rfl h ?_
          intro r14 M13 h
          refine wp_if_ne (tgt := 63) dX10_copy_54 (by decide) (fun c15 => ?_) (fun c15 => ?_)
          · replace h := h.2 c15
            refine wp_aload_n dX10_copy_63 rfl rfl ?_
            refine wp_getR (b := 1) dX10_copy_64 rfl rfl fb_10_0 m_2_30 ?_
            refine wp_iload_n dX10_copy_67 rfl rfl ?_
            refine wp_iload_n dX10_copy_68 rfl rfl ?_
            refine wp_iload dX10_copy_69 rfl ?_
            refine wp_callVI (a := 1) (d1 := 3) (As := [.int x1, .int x2, .int x5]) (st := []) dX10_copy_71 rfl cm_X9_reaches m_3_110 (by decide) rfl (Nat.le_of_ble_eq_true rfl) rfl h ?_
            intro r17 M16 h
            refine wp_if_eq (tgt := 92) dX10_copy_74 (by decide) (fun c18 => ?_) (fun c18 => ?_)
            · replace h := h.1 c18
              refine wp_aload_n dX10_copy_92 rfl rfl ?_
              refine wp_iconst (v := 2) dX10_copy_93 (by decide) ?_
              refine wp_callVI (a := 0) (d1 := 1) (As := [.int 2]) (st := []) dX10_copy_94 rfl cm_X10_finds m_2_174 (by decide) rfl (Nat.le_of_ble_eq_true rfl) rfl h ?_
              intro r20 M19 h
              exact wp_iret (ty := .int) dX10_copy_97 rfl rfl h
            · replace h := h.2 c18
              refine wp_aload_n dX10_copy_77 rfl rfl ?_
              refine wp_getR (b := 1) dX10_copy_78 rfl rfl fb_10_0 m_2_30 ?_
              refine wp_iload_n dX10_copy_81 rfl rfl ?_
              refine wp_iload dX10_copy_82 rfl ?_
              refine wp_iload dX10_copy_84 rfl ?_
              refine wp_callVI (a := 1) (d1 := 3) (As := [.int x3, .int x4, .int x5]) (st := []) dX10_copy_86 rfl cm_X9_reaches m_3_110 (by decide) rfl (Nat.le_of_ble_eq_true rfl) rfl h ?_
              intro r22 M21 h
              refine wp_if_ne (tgt := 98) dX10_copy_89 (by decide) (fun c23 => ?_) (fun c23 => ?_)
              · replace h := h.2 c23
                refine wp_aload_n dX10_copy_98 rfl rfl ?_
                refine wp_getR (b := 1) dX10_copy_99 rfl rfl fb_10_0 m_2_30 ?_
                refine wp_iload_n dX10_copy_102 rfl rfl ?_
                refine wp_iload_n dX10_copy_103 rfl rfl ?_
                refine wp_iload_n dX10_copy_104 rfl rfl ?_
                refine wp_iload dX10_copy_105 rfl ?_
                refine wp_iload dX10_copy_107 rfl ?_
                refine wp_callVV (a := 1) (d1 := 4) (As := [.int x1, .int x2, .int x3, .int x4, .int x5]) (st := []) dX10_copy_109 rfl cm_X9_move m_3_114 (by decide) rfl (Nat.le_of_ble_eq_true rfl) rfl h ?_
                intro M24 h
                refine wp_iconst (v := 1) dX10_copy_112 (by decide) ?_
                exact wp_iret (ty := .int) dX10_copy_113 rfl rfl h
              · replace h := h.1 c23
                refine wp_aload_n dX10_copy_92 rfl rfl ?_
                refine wp_iconst (v := 2) dX10_copy_93 (by decide) ?_
                refine wp_callVI (a := 0) (d1 := 1) (As := [.int 2]) (st := []) dX10_copy_94 rfl cm_X10_finds m_2_174 (by decide) rfl (Nat.le_of_ble_eq_true rfl) rfl h ?_
                intro r26 M25 h
                exact wp_iret (ty := .int) dX10_copy_97 rfl rfl h
          · replace h := h.1 c15
            refine wp_aload_n dX10_copy_57 rfl rfl ?_
            refine wp_iconst (v := 1) dX10_copy_58 (by decide) ?_
            refine wp_callVI (a := 0) (d1 := 1) (As := [.int 1]) (st := []) dX10_copy_59 rfl cm_X10_finds m_2_174 (by decide) rfl (Nat.le_of_ble_eq_true rfl) rfl h ?_
            intro r28 M27 h
            exact wp_iret (ty := .int) dX10_copy_62 rfl rfl h
      · replace h := h.1 c7
        refine wp_aload_n dX10_copy_29 rfl rfl ?_
        refine wp_iconst (v := 5) dX10_copy_30 (by decide) ?_
        refine wp_callVI (a := 0) (d1 := 1) (As := [.int 5]) (st := []) dX10_copy_31 rfl cm_X10_finds m_2_174 (by decide) rfl (Nat.le_of_ble_eq_true rfl) rfl h ?_
        intro r30 M29 h
        exact wp_iret (ty := .int) dX10_copy_34 rfl rfl h
    · replace h := h.1 c6
      refine wp_iconst (v := (-1 : Int32)) dX10_copy_22 (by decide) ?_
      exact wp_iret (ty := .int) dX10_copy_23 rfl rfl h
abbrev C_X10_mean (G : Glob) (x1 : Int32) (M : Mem) (Q : Option Value → Mem → Prop) : Prop := WpM G 6 Y_X10_mean [.ref (ad G 0), .int x1] M Q
set_option maxRecDepth 20000 in
theorem v_X10_mean {G : Glob} {x1 : Int32} {M : Mem} {Q : Option Value → Mem → Prop}  (h : (WpM G 4 Y_X10_refusedRow [.ref (ad G 0), .int x1] M (RI (fun r2 M1 => ((r2 = 0 → (WpM G 2 Y_X9_sizeOf [.ref (ad G 1), .int x1] M1 (RI (fun r5 M4 => (((0 : Int32) < r5 → (WpM G 5 Y_X9_total [.ref (ad G 1), .int x1] M4 (RJ (fun r8 M7 => (¬ r5.toInt64 = 0 ∧ (WpM G 1 Y_X10_tells [.ref (ad G 0), .int ((r8 / r5.toInt64).toInt32)] M7 (RI (fun r10 M9 => Q (some (.int r10)) M9)))))))) ∧ (¬ (0 : Int32) < r5 → (WpM G 1 Y_X10_finds [.ref (ad G 0), .int 4] M4 (RI (fun r12 M11 => Q (some (.int r12)) M11))))))))) ∧ (¬ r2 = 0 → Q (some (.int r2)) M1)))))) : C_X10_mean G x1 M Q := by
  refine wp_enter (ls0 := [some (.ref (ad G 0)), some (.int x1), none, none]) (by decide +kernel) (Nat.le_of_ble_eq_true rfl) rfl ?_
  refine wp_aload_n dX10_mean_0 rfl rfl ?_
  refine wp_iload_n dX10_mean_1 rfl rfl ?_
  refine wp_callVI (a := 0) (d1 := 4) (As := [.int x1]) (st := []) dX10_mean_2 rfl cm_X10_refusedRow m_3_79 (by decide) rfl (Nat.le_of_ble_eq_true rfl) rfl h ?_
  intro r2 M1 h
  refine wp_istore_n (ls' := [some (.ref (ad G 0)), some (.int x1), some (.int r2), none]) dX10_mean_5 rfl (by decide) rfl rfl ?_
  refine wp_iload_n dX10_mean_6 rfl rfl ?_
  refine wp_if_eq (tgt := 12) dX10_mean_7 (by decide) (fun c3 => ?_) (fun c3 => ?_)
  · replace h := h.1 c3
    refine wp_aload_n dX10_mean_12 rfl rfl ?_
    refine wp_getR (b := 1) dX10_mean_13 rfl rfl fb_10_0 m_2_30 ?_
    refine wp_iload_n dX10_mean_16 rfl rfl ?_
    refine wp_callVI (a := 1) (d1 := 2) (As := [.int x1]) (st := []) dX10_mean_17 rfl cm_X9_sizeOf m_3_126 (by decide) rfl (Nat.le_of_ble_eq_true rfl) rfl h ?_
    intro r5 M4 h
    refine wp_istore_n (ls' := [some (.ref (ad G 0)), some (.int x1), some (.int r2), some (.int r5)]) dX10_mean_20 rfl (by decide) rfl rfl ?_
    refine wp_iload_n dX10_mean_21 rfl rfl ?_
    refine wp_if_gt (tgt := 31) dX10_mean_22 (by decide) (fun c6 => ?_) (fun c6 => ?_)
    · replace h := h.1 c6
      refine wp_aload_n dX10_mean_31 rfl rfl ?_
      refine wp_aload_n dX10_mean_32 rfl rfl ?_
      refine wp_getR (b := 1) dX10_mean_33 rfl rfl fb_10_0 m_2_30 ?_
      refine wp_iload_n dX10_mean_36 rfl rfl ?_
      refine wp_callVL (a := 1) (d1 := 5) (As := [.int x1]) (st := [.ref (ad G 0)]) dX10_mean_37 rfl cm_X9_total m_3_127 (by decide) rfl (Nat.le_of_ble_eq_true rfl) rfl h ?_
      intro r8 M7 h
      refine wp_iload_n dX10_mean_40 rfl rfl ?_
      refine wp_i2l dX10_mean_41 ?_
      refine wp_ldiv dX10_mean_42 h.1 ?_
      replace h := h.2
      refine wp_l2i dX10_mean_43 ?_
      refine wp_callVI (a := 0) (d1 := 1) (As := [.int ((r8 / r5.toInt64).toInt32)]) (st := []) dX10_mean_44 rfl cm_X10_tells m_3_90 (by decide) rfl (Nat.le_of_ble_eq_true rfl) rfl h ?_
      intro r10 M9 h
      exact wp_iret (ty := .int) dX10_mean_47 rfl rfl h
    · replace h := h.2 c6
      refine wp_aload_n dX10_mean_25 rfl rfl ?_
      refine wp_iconst (v := 4) dX10_mean_26 (by decide) ?_
      refine wp_callVI (a := 0) (d1 := 1) (As := [.int 4]) (st := []) dX10_mean_27 rfl cm_X10_finds m_2_174 (by decide) rfl (Nat.le_of_ble_eq_true rfl) rfl h ?_
      intro r12 M11 h
      exact wp_iret (ty := .int) dX10_mean_30 rfl rfl h
  · replace h := h.2 c3
    refine wp_iload_n dX10_mean_10 rfl rfl ?_
    exact wp_iret (ty := .int) dX10_mean_11 rfl rfl h
abbrev C_X10_text (G : Glob) (x1 : Int32) (x2 : Int32) (M : Mem) (Q : Option Value → Mem → Prop) : Prop := WpM G 3 Y_X10_text [.ref (ad G 0), .int x1, .int x2] M Q
set_option maxRecDepth 20000 in
theorem v_X10_text {G : Glob} {x1 : Int32} {x2 : Int32} {M : Mem} {Q : Option Value → Mem → Prop}  (h : (WpM G 1 Y_X9_isNumber [.ref (ad G 4), .int x1] M (RI (fun r2 M1 => ((r2 = 0 → Q (some (.int (-1 : Int32))) M1) ∧ (¬ r2 = 0 → (((60 : Int32) < x2 → Q (some (.int (-1 : Int32))) M1) ∧ (¬ (60 : Int32) < x2 → ((x2 < 0 → (WpM G 1 Y_X10_finds [.ref (ad G 0), .int 5] M1 (RI (fun r8 M7 => Q (some (.int r8)) M7)))) ∧ (¬ x2 < 0 → (WpM G 2 Y_X9_begin [.ref (ad G 4), .int x1, .int x2] M1 (RV (fun M6 => Q (some (.int x2)) M6))))))))))))) : C_X10_text G x1 x2 M Q := by
  refine wp_enter (ls0 := [some (.ref (ad G 0)), some (.int x1), some (.int x2)]) (by decide +kernel) (Nat.le_of_ble_eq_true rfl) rfl ?_
  refine wp_aload_n dX10_text_0 rfl rfl ?_
  refine wp_getR (b := 4) dX10_text_1 rfl rfl fb_10_1 m_2_31 ?_
  refine wp_iload_n dX10_text_4 rfl rfl ?_
  refine wp_callVI (a := 4) (d1 := 1) (As := [.int x1]) (st := []) dX10_text_5 rfl cm_X9_isNumber m_3_66 (by decide) rfl (Nat.le_of_ble_eq_true rfl) rfl h ?_
  intro r2 M1 h
  refine wp_if_eq (tgt := 17) dX10_text_8 (by decide) (fun c3 => ?_) (fun c3 => ?_)
  · replace h := h.1 c3
    refine wp_iconst (v := (-1 : Int32)) dX10_text_17 (by decide) ?_
    exact wp_iret (ty := .int) dX10_text_18 rfl rfl h
  · replace h := h.2 c3
    refine wp_iload_n dX10_text_11 rfl rfl ?_
    refine wp_bipush (v := 60) dX10_text_12 (by decide) ?_
    refine wp_icmp_le (tgt := 19) dX10_text_14 (by decide) (fun c4 => ?_) (fun c4 => ?_)
    · replace h := h.2 c4
      refine wp_iload_n dX10_text_19 rfl rfl ?_
      refine wp_if_ge (tgt := 29) dX10_text_20 (by decide) (fun c5 => ?_) (fun c5 => ?_)
      · replace h := h.2 c5
        refine wp_aload_n dX10_text_29 rfl rfl ?_
        refine wp_getR (b := 4) dX10_text_30 rfl rfl fb_10_1 m_2_31 ?_
        refine wp_iload_n dX10_text_33 rfl rfl ?_
        refine wp_iload_n dX10_text_34 rfl rfl ?_
        refine wp_callVV (a := 4) (d1 := 2) (As := [.int x1, .int x2]) (st := []) dX10_text_35 rfl cm_X9_begin m_3_67 (by decide) rfl (Nat.le_of_ble_eq_true rfl) rfl h ?_
        intro M6 h
        refine wp_iload_n dX10_text_38 rfl rfl ?_
        exact wp_iret (ty := .int) dX10_text_39 rfl rfl h
      · replace h := h.1 c5
        refine wp_aload_n dX10_text_23 rfl rfl ?_
        refine wp_iconst (v := 5) dX10_text_24 (by decide) ?_
        refine wp_callVI (a := 0) (d1 := 1) (As := [.int 5]) (st := []) dX10_text_25 rfl cm_X10_finds m_2_174 (by decide) rfl (Nat.le_of_ble_eq_true rfl) rfl h ?_
        intro r8 M7 h
        exact wp_iret (ty := .int) dX10_text_28 rfl rfl h
    · replace h := h.1 c4
      refine wp_iconst (v := (-1 : Int32)) dX10_text_17 (by decide) ?_
      exact wp_iret (ty := .int) dX10_text_18 rfl rfl h
abbrev C_X10_put (G : Glob) (x1 : Int32) (x2 : Int32) (x3 : Int32) (M : Mem) (Q : Option Value → Mem → Prop) : Prop := WpM G 5 Y_X10_put [.ref (ad G 0), .int x1, .int x2, .int x3] M Q
set_option maxRecDepth 20000 in
theorem v_X10_put {G : Glob} {x1 : Int32} {x2 : Int32} {x3 : Int32} {M : Mem} {Q : Option Value → Mem → Prop}  (h : (WpM G 4 Y_X10_refusedText [.ref (ad G 0), .int x1] M (RI (fun r2 M1 => ((r2 = 0 → (WpM G 3 Y_X9_holds [.ref (ad G 4), .int x1, .int x2] M1 (RI (fun r5 M4 => ((r5 = 0 → (WpM G 1 Y_X10_finds [.ref (ad G 0), .int 2] M4 (RI (fun r11 M10 => Q (some (.int r11)) M10)))) ∧ (¬ r5 = 0 → (WpM G 4 Y_X9_read [.ref (ad G 4), .int x1, .int x2] M4 (RI (fun r8 M7 => (WpM G 4 Y_X9_write [.ref (ad G 4), .int x1, .int x2, .int x3.toInt8.toInt32] M7 (RV (fun M9 => Q (some (.int (r8 + 1000))) M9)))))))))))) ∧ (¬ r2 = 0 → Q (some (.int r2)) M1)))))) : C_X10_put G x1 x2 x3 M Q := by
  refine wp_enter (ls0 := [some (.ref (ad G 0)), some (.int x1), some (.int x2), some (.int x3), none, none]) (by decide +kernel) (Nat.le_of_ble_eq_true rfl) rfl ?_
  refine wp_aload_n dX10_put_0 rfl rfl ?_
  refine wp_iload_n dX10_put_1 rfl rfl ?_
  refine wp_callVI (a := 0) (d1 := 4) (As := [.int x1]) (st := []) dX10_put_2 rfl cm_X10_refusedText m_3_139 (by decide) rfl (Nat.le_of_ble_eq_true rfl) rfl h ?_
  intro r2 M1 h
  refine wp_istore (ls' := [some (.ref (ad G 0)), some (.int x1), some (.int x2), some (.int x3), some (.int r2), none]) dX10_put_5 (by decide) rfl rfl ?_
  refine wp_iload dX10_put_7 rfl ?_
  refine wp_if_eq (tgt := 15) dX10_put_9 (by decide) (fun c3 => ?_) (fun c3 => ?_)
  · replace h := h.1 c3
    refine wp_aload_n dX10_put_15 rfl rfl ?_
    refine wp_getR (b := 4) dX10_put_16 rfl rfl fb_10_1 m_2_31 ?_
    refine wp_iload_n dX10_put_19 rfl rfl ?_
    refine wp_iload_n dX10_put_20 rfl rfl ?_
    refine wp_callVI (a := 4) (d1 := 3) (As := [.int x1, .int x2]) (st := []) dX10_put_21 rfl cm_X9_holds m_3_84 (by decide) rfl (Nat.le_of_ble_eq_true rfl) rfl h ?_
    intro r5 M4 h
    refine wp_if_ne (tgt := 33) dX10_put_24 (by decide) (fun c6 => ?_) (fun c6 => ?_)
    · replace h := h.2 c6
      refine wp_aload_n dX10_put_33 rfl rfl ?_
      refine wp_getR (b := 4) dX10_put_34 rfl rfl fb_10_1 m_2_31 ?_
      refine wp_iload_n dX10_put_37 rfl rfl ?_
      refine wp_iload_n dX10_put_38 rfl rfl ?_
      refine wp_callVI (a := 4) (d1 := 4) (As := [.int x1, .int x2]) (st := []) dX10_put_39 rfl cm_X9_read m_3_85 (by decide) rfl (Nat.le_of_ble_eq_true rfl) rfl h ?_
      intro r8 M7 h
      refine wp_istore (ls' := [some (.ref (ad G 0)), some (.int x1), some (.int x2), some (.int x3), some (.int r2), some (.int r8)]) dX10_put_42 (by decide) rfl rfl ?_
      refine wp_aload_n dX10_put_44 rfl rfl ?_
      refine wp_getR (b := 4) dX10_put_45 rfl rfl fb_10_1 m_2_31 ?_
      refine wp_iload_n dX10_put_48 rfl rfl ?_
      refine wp_iload_n dX10_put_49 rfl rfl ?_
      refine wp_iload_n dX10_put_50 rfl rfl ?_
      refine wp_i2b dX10_put_51 ?_
      refine wp_callVV (a := 4) (d1 := 4) (As := [.int x1, .int x2, .int x3.toInt8.toInt32]) (st := []) dX10_put_52 rfl cm_X9_write m_3_86 (by decide) rfl (Nat.le_of_ble_eq_true rfl) rfl h ?_
      intro M9 h
      refine wp_iload dX10_put_55 rfl ?_
      refine wp_sipush (v := 1000) dX10_put_57 (by decide) ?_
      refine wp_iadd dX10_put_60 ?_
      exact wp_iret (ty := .int) dX10_put_61 rfl rfl h
    · replace h := h.1 c6
      refine wp_aload_n dX10_put_27 rfl rfl ?_
      refine wp_iconst (v := 2) dX10_put_28 (by decide) ?_
      refine wp_callVI (a := 0) (d1 := 1) (As := [.int 2]) (st := []) dX10_put_29 rfl cm_X10_finds m_2_174 (by decide) rfl (Nat.le_of_ble_eq_true rfl) rfl h ?_
      intro r11 M10 h
      exact wp_iret (ty := .int) dX10_put_32 rfl rfl h
  · replace h := h.2 c3
    refine wp_iload dX10_put_12 rfl ?_
    exact wp_iret (ty := .int) dX10_put_14 rfl rfl h
abbrev C_X10_fault (G : Glob) (x1 : Int32) (M : Mem) (Q : Option Value → Mem → Prop) : Prop := WpM G 8 Y_X10_fault [.ref (ad G 0), .int x1] M Q
set_option maxRecDepth 20000 in
theorem v_X10_fault {G : Glob} {x1 : Int32} {M : Mem} {Q : Option Value → Mem → Prop}  (h : (WpM G 4 Y_X10_refusedText [.ref (ad G 0), .int x1] M (RI (fun r2 M1 => ((r2 = 0 → (WpM G 7 Y_X7_faultOf [.ref (ad G 7), .ref (ad G 4), .int x1] M1 (RI (fun r5 M4 => Q (some (.int r5)) M4)))) ∧ (¬ r2 = 0 → Q (some (.int r2)) M1)))))) : C_X10_fault G x1 M Q := by
  refine wp_enter (ls0 := [some (.ref (ad G 0)), some (.int x1), none]) (by decide +kernel) (Nat.le_of_ble_eq_true rfl) rfl ?_
  refine wp_aload_n dX10_fault_0 rfl rfl ?_
  refine wp_iload_n dX10_fault_1 rfl rfl ?_
  refine wp_callVI (a := 0) (d1 := 4) (As := [.int x1]) (st := []) dX10_fault_2 rfl cm_X10_refusedText m_3_139 (by decide) rfl (Nat.le_of_ble_eq_true rfl) rfl h ?_
  intro r2 M1 h
  refine wp_istore_n (ls' := [some (.ref (ad G 0)), some (.int x1), some (.int r2)]) dX10_fault_5 rfl (by decide) rfl rfl ?_
  refine wp_iload_n dX10_fault_6 rfl rfl ?_
  refine wp_if_eq (tgt := 12) dX10_fault_7 (by decide) (fun c3 => ?_) (fun c3 => ?_)
  · replace h := h.1 c3
    refine wp_aload_n dX10_fault_12 rfl rfl ?_
    refine wp_getR (b := 7) dX10_fault_13 rfl rfl fb_10_2 m_2_32 ?_
    refine wp_aload_n dX10_fault_16 rfl rfl ?_
    refine wp_getR (b := 4) dX10_fault_17 rfl rfl fb_10_1 m_2_31 ?_
    refine wp_iload_n dX10_fault_20 rfl rfl ?_
    refine wp_callVI (a := 7) (d1 := 7) (As := [.ref (ad G 4), .int x1]) (st := []) dX10_fault_21 rfl cm_X7_faultOf m_3_147 (by decide) rfl (Nat.le_of_ble_eq_true rfl) rfl h ?_
    intro r5 M4 h
    exact wp_iret (ty := .int) dX10_fault_24 rfl rfl h
  · replace h := h.2 c3
    refine wp_iload_n dX10_fault_10 rfl rfl ?_
    exact wp_iret (ty := .int) dX10_fault_11 rfl rfl h
abbrev P_X10_drawer_45 (G : Glob) (x3 : Int32) (M : Mem) (Q : Option Value → Mem → Prop) : Prop := Wp G 8 Y_X10_drawer 45 [some (.ref (ad G 0)), none, none, some (.int x3)] [] M Q
set_option maxRecDepth 20000 in
theorem v_X10_drawer_45 {G : Glob} {x3 : Int32} {M : Mem} {Q : Option Value → Mem → Prop}  (h : ((x3 < 3 → (vp_in x3 3 ∧ (∀ M3 : Mem, M3 = upI M (17 + x3.toNatClampNeg) 1 (-1 : Int32) → P_X10_drawer_45 G (x3 + 1) M3 Q))) ∧ (¬ x3 < 3 → Q (some (.int (M.1 12 2))) M))) : P_X10_drawer_45 G x3 M Q := by
  refine wp_iload_n dX10_drawer_45 rfl rfl ?_
  refine wp_iconst (v := 3) dX10_drawer_46 (by decide) ?_
  refine wp_icmp_ge (tgt := 66) dX10_drawer_47 (by decide) (fun c1 => ?_) (fun c1 => ?_)
  · replace h := h.2 c1
    refine wp_aload_n dX10_drawer_66 rfl rfl ?_
    refine wp_getR (b := 12) dX10_drawer_67 rfl rfl fb_10_3 m_2_33 ?_
    refine wp_getI dX10_drawer_70 rfl fb_3_2 m_1_155 ?_
    exact wp_iret (ty := .int) dX10_drawer_73 rfl rfl h
  · replace h := h.1 c1
    refine wp_aload_n dX10_drawer_50 rfl rfl ?_
    refine wp_getR (b := 16) dX10_drawer_51 rfl rfl fb_10_4 m_2_34 ?_
    refine wp_iload_n dX10_drawer_54 rfl rfl ?_
    obtain ⟨b2, h⟩ := h
    refine wp_aald (b := (17 + x3.toNatClampNeg)) (n := 3) dX10_drawer_55 rfl (by decide) rfl b2 rfl ?_
    have kb2 : kd (17 + x3.toNatClampNeg) = 2 := (kda_22 (a := 16) rfl (vp_lt b2))
    refine wp_iconst (v := (-1 : Int32)) dX10_drawer_56 (by decide) ?_
    refine wp_putI dX10_drawer_57 kb2 fp_2_1 m_1_95 ?_
    refine wp_topM (fun M3 hM3 => ?_)
    replace h := h M3 hM3
    refine wp_iinc (v := (x3 + 1)) (ls' := [some (.ref (ad G 0)), none, none, some (.int (x3 + 1))]) dX10_drawer_60 rfl rfl (by decide) rfl rfl ?_
    refine wp_goto (tgt := 45) dX10_drawer_63 (by decide) ?_
    exact h
abbrev C_X10_drawer (G : Glob) (x1 : Int32) (M : Mem) (Q : Option Value → Mem → Prop) : Prop := WpM G 8 Y_X10_drawer [.ref (ad G 0), .int x1] M Q
set_option maxRecDepth 20000 in
theorem v_X10_drawer {G : Glob} {x1 : Int32} {M : Mem} {Q : Option Value → Mem → Prop}  (h : (WpM G 4 Y_X10_refusedText [.ref (ad G 0), .int x1] M (RI (fun r2 M1 => ((r2 = 0 → (WpM G 7 Y_X7_faultOf [.ref (ad G 7), .ref (ad G 4), .int x1] M1 (RI (fun r5 M4 => ((r5 = (-9 : Int32) → (WpM G 4 Y_X3_fill [.ref (ad G 12), .ref (ad G 7)] M4 (RV (fun M7 => P_X10_drawer_45 G 0 M7 Q)))) ∧ (¬ r5 = (-9 : Int32) → Q (some (.int (-4 : Int32))) M4)))))) ∧ (¬ r2 = 0 → Q (some (.int r2)) M1)))))) : C_X10_drawer G x1 M Q := by
  refine wp_enter (ls0 := [some (.ref (ad G 0)), some (.int x1), none, none]) (by decide +kernel) (Nat.le_of_ble_eq_true rfl) rfl ?_
  refine wp_aload_n dX10_drawer_0 rfl rfl ?_
  refine wp_iload_n dX10_drawer_1 rfl rfl ?_
  refine wp_callVI (a := 0) (d1 := 4) (As := [.int x1]) (st := []) dX10_drawer_2 rfl cm_X10_refusedText m_3_139 (by decide) rfl (Nat.le_of_ble_eq_true rfl) rfl h ?_
  intro r2 M1 h
  refine wp_istore_n (ls' := [some (.ref (ad G 0)), some (.int x1), some (.int r2), none]) dX10_drawer_5 rfl (by decide) rfl rfl ?_
  refine wp_iload_n dX10_drawer_6 rfl rfl ?_
  refine wp_if_eq (tgt := 12) dX10_drawer_7 (by decide) (fun c3 => ?_) (fun c3 => ?_)
  · replace h := h.1 c3
    refine wp_aload_n dX10_drawer_12 rfl rfl ?_
    refine wp_getR (b := 7) dX10_drawer_13 rfl rfl fb_10_2 m_2_32 ?_
    refine wp_aload_n dX10_drawer_16 rfl rfl ?_
    refine wp_getR (b := 4) dX10_drawer_17 rfl rfl fb_10_1 m_2_31 ?_
    refine wp_iload_n dX10_drawer_20 rfl rfl ?_
    refine wp_callVI (a := 7) (d1 := 7) (As := [.ref (ad G 4), .int x1]) (st := []) dX10_drawer_21 rfl cm_X7_faultOf m_3_147 (by decide) rfl (Nat.le_of_ble_eq_true rfl) rfl h ?_
    intro r5 M4 h
    refine wp_bipush (v := (-9 : Int32)) dX10_drawer_24 (by decide) ?_
    refine wp_icmp_eq (tgt := 32) dX10_drawer_26 (by decide) (fun c6 => ?_) (fun c6 => ?_)
    · replace h := h.1 c6
      refine wp_aload_n dX10_drawer_32 rfl rfl ?_
      refine wp_getR (b := 12) dX10_drawer_33 rfl rfl fb_10_3 m_2_33 ?_
      refine wp_aload_n dX10_drawer_36 rfl rfl ?_
      refine wp_getR (b := 7) dX10_drawer_37 rfl rfl fb_10_2 m_2_32 ?_
      refine wp_callVV (a := 12) (d1 := 4) (As := [.ref (ad G 7)]) (st := []) dX10_drawer_40 rfl cm_X3_fill m_3_171 (by decide) rfl (Nat.le_of_ble_eq_true rfl) rfl h ?_
      intro M7 h
      refine wp_iconst (v := 0) dX10_drawer_43 (by decide) ?_
      refine wp_istore_n (ls' := [some (.ref (ad G 0)), some (.int x1), some (.int r2), some (.int 0)]) dX10_drawer_44 rfl (by decide) rfl rfl ?_
      exact wp_mask [true, false, false, true] rfl h
    · replace h := h.2 c6
      refine wp_bipush (v := (-4 : Int32)) dX10_drawer_29 (by decide) ?_
      exact wp_iret (ty := .int) dX10_drawer_31 rfl rfl h
  · replace h := h.2 c3
    refine wp_iload_n dX10_drawer_10 rfl rfl ?_
    exact wp_iret (ty := .int) dX10_drawer_11 rfl rfl h
abbrev C_X10_glove (G : Glob) (x1 : Int32) (x2 : Int32) (M : Mem) (Q : Option Value → Mem → Prop) : Prop := WpM G 4 Y_X10_glove [.ref (ad G 0), .int x1, .int x2] M Q
set_option maxRecDepth 20000 in
theorem v_X10_glove {G : Glob} {x1 : Int32} {x2 : Int32} {M : Mem} {Q : Option Value → Mem → Prop}  (h : (WpM G 1 Y_X3_has [.ref (ad G 12), .int x1] M (RI (fun r2 M1 => ((r2 = 0 → Q (some (.int (-1 : Int32))) M1) ∧ (¬ r2 = 0 → ((x2 < 0 → Q (some (.int (-1 : Int32))) M1) ∧ (¬ x2 < 0 → ((x2 < 7 → (vp_in x1 8 ∧ (WpM G 3 Y_X4_tell [.ref (ad G (55 + x1.toNatClampNeg)), .int x2] M1 (RI (fun r8 M7 => (WpM G 1 Y_X10_tells [.ref (ad G 0), .int r8] M7 (RI (fun r10 M9 => Q (some (.int r10)) M9)))))))) ∧ (¬ x2 < 7 → Q (some (.int (-1 : Int32))) M1)))))))))) : C_X10_glove G x1 x2 M Q := by
  refine wp_enter (ls0 := [some (.ref (ad G 0)), some (.int x1), some (.int x2)]) (by decide +kernel) (Nat.le_of_ble_eq_true rfl) rfl ?_
  refine wp_aload_n dX10_glove_0 rfl rfl ?_
  refine wp_getR (b := 12) dX10_glove_1 rfl rfl fb_10_3 m_2_33 ?_
  refine wp_iload_n dX10_glove_4 rfl rfl ?_
  refine wp_callVI (a := 12) (d1 := 1) (As := [.int x1]) (st := []) dX10_glove_5 rfl cm_X3_has m_2_74 (by decide) rfl (Nat.le_of_ble_eq_true rfl) rfl h ?_
  intro r2 M1 h
  refine wp_if_eq (tgt := 21) dX10_glove_8 (by decide) (fun c3 => ?_) (fun c3 => ?_)
  · replace h := h.1 c3
    refine wp_iconst (v := (-1 : Int32)) dX10_glove_21 (by decide) ?_
    exact wp_iret (ty := .int) dX10_glove_22 rfl rfl h
  · replace h := h.2 c3
    refine wp_iload_n dX10_glove_11 rfl rfl ?_
    refine wp_if_lt (tgt := 21) dX10_glove_12 (by decide) (fun c4 => ?_) (fun c4 => ?_)
    · replace h := h.1 c4
      refine wp_iconst (v := (-1 : Int32)) dX10_glove_21 (by decide) ?_
      exact wp_iret (ty := .int) dX10_glove_22 rfl rfl h
    · replace h := h.2 c4
      refine wp_iload_n dX10_glove_15 rfl rfl ?_
      refine wp_bipush (v := 7) dX10_glove_16 (by decide) ?_
      refine wp_icmp_lt (tgt := 23) dX10_glove_18 (by decide) (fun c5 => ?_) (fun c5 => ?_)
      · replace h := h.1 c5
        refine wp_aload_n dX10_glove_23 rfl rfl ?_
        refine wp_aload_n dX10_glove_24 rfl rfl ?_
        refine wp_getR (b := 12) dX10_glove_25 rfl rfl fb_10_3 m_2_33 ?_
        refine wp_getR (b := 13) dX10_glove_28 rfl rfl fb_3_0 m_1_147 ?_
        refine wp_iload_n dX10_glove_31 rfl rfl ?_
        obtain ⟨b6, h⟩ := h
        refine wp_aald (b := (55 + x1.toNatClampNeg)) (n := 8) dX10_glove_32 rfl (by decide) rfl b6 rfl ?_
        have kb6 : kd (55 + x1.toNatClampNeg) = 4 := (kda_23 (a := 13) rfl (vp_lt b6))
        refine wp_iload_n dX10_glove_33 rfl rfl ?_
        refine wp_callVI (a := (55 + x1.toNatClampNeg)) (d1 := 3) (As := [.int x2]) (st := [.ref (ad G 0)]) dX10_glove_34 kb6 cm_X4_tell m_3_34 (by decide) rfl (Nat.le_of_ble_eq_true rfl) rfl h ?_
        intro r8 M7 h
        refine wp_callVI (a := 0) (d1 := 1) (As := [.int r8]) (st := []) dX10_glove_37 rfl cm_X10_tells m_3_90 (by decide) rfl (Nat.le_of_ble_eq_true rfl) rfl h ?_
        intro r10 M9 h
        exact wp_iret (ty := .int) dX10_glove_40 rfl rfl h
      · replace h := h.2 c5
        refine wp_iconst (v := (-1 : Int32)) dX10_glove_21 (by decide) ?_
        exact wp_iret (ty := .int) dX10_glove_22 rfl rfl h
abbrev C_X10_mark (G : Glob) (x1 : Int32) (x2 : Int32) (M : Mem) (Q : Option Value → Mem → Prop) : Prop := WpM G 6 Y_X10_mark [.ref (ad G 0), .int x1, .int x2] M Q
set_option maxRecDepth 20000 in
theorem v_X10_mark {G : Glob} {x1 : Int32} {x2 : Int32} {M : Mem} {Q : Option Value → Mem → Prop}  (h : (WpM G 1 Y_X3_has [.ref (ad G 12), .int x1] M (RI (fun r2 M1 => ((r2 = 0 → Q (some (.int (-1 : Int32))) M1) ∧ (¬ r2 = 0 → (((0 : Int32) < x2 → ((x2 < 6 → (vp_in x1 8 ∧ (WpM G 1 Y_X4_isOf [.ref (ad G (55 + x1.toNatClampNeg)), .int x2] M1 (RI (fun r8 M7 => ((r8 = 0 → (WpM G 1 Y_X10_finds [.ref (ad G 0), .int 3] M7 (RI (fun r24 M23 => Q (some (.int r24)) M23)))) ∧ (¬ r8 = 0 → ((x2 = 1 → (vp_in x1 8 ∧ (WpM G 2 Y_X4_warmth [.ref (ad G (55 + x1.toNatClampNeg))] M7 (RI (fun r12 M11 => (vp_in x1 8 ∧ (WpM G 1 Y_X4_bareWarmth [.ref (ad G (55 + x1.toNatClampNeg))] M11 (RI (fun r15 M14 => Q (some (.int (r12 - r15))) M14))))))))) ∧ (¬ x2 = 1 → ((x2 = 2 → (WpM G 4 Y_X3_matesOf [.ref (ad G 12), .int x1] M7 (RI (fun r17 M16 => Q (some (.int r17)) M16)))) ∧ (¬ x2 = 2 → ((x2 = 3 → (WpM G 3 Y_X3_sameSortAs [.ref (ad G 12), .int x1] M7 (RI (fun r19 M18 => Q (some (.int r19)) M18)))) ∧ (¬ x2 = 3 → ((x2 = 4 → (vp_in x1 8 ∧ Q (some (.int (if 0 < ((6 : Int32) - (M7.1 (55 + x1.toNatClampNeg) 4)) then ((6 : Int32) - (M7.1 (55 + x1.toNatClampNeg) 4)) else 0))) M7)) ∧ (¬ x2 = 4 → (WpM G 5 Y_X5_gainOfStretch [.ref (ad G 36), .ref (ad G 12), .int x1] M7 (RI (fun r22 M21 => Q (some (.int r22)) M21)))))))))))))))))) ∧ (¬ x2 < 6 → Q (some (.int (-1 : Int32))) M1))) ∧ (¬ (0 : Int32) < x2 → Q (some (.int (-1 : Int32))) M1)))))))) : C_X10_mark G x1 x2 M Q := by
  refine wp_enter (ls0 := [some (.ref (ad G 0)), some (.int x1), some (.int x2)]) (by decide +kernel) (Nat.le_of_ble_eq_true rfl) rfl ?_
  refine wp_aload_n dX10_mark_0 rfl rfl ?_
  refine wp_getR (b := 12) dX10_mark_1 rfl rfl fb_10_3 m_2_33 ?_
  refine wp_iload_n dX10_mark_4 rfl rfl ?_
  refine wp_callVI (a := 12) (d1 := 1) (As := [.int x1]) (st := []) dX10_mark_5 rfl cm_X3_has m_2_74 (by decide) rfl (Nat.le_of_ble_eq_true rfl) rfl h ?_
  intro r2 M1 h
  refine wp_if_eq (tgt := 21) dX10_mark_8 (by decide) (fun c3 => ?_) (fun c3 => ?_)
  · replace h := h.1 c3
    refine wp_iconst (v := (-1 : Int32)) dX10_mark_21 (by decide) ?_
    exact wp_iret (ty := .int) dX10_mark_22 rfl rfl h
  · replace h := h.2 c3
    refine wp_iload_n dX10_mark_11 rfl rfl ?_
    refine wp_if_le (tgt := 21) dX10_mark_12 (by decide) (fun c4 => ?_) (fun c4 => ?_)
    · replace h := h.2 c4
      refine wp_iconst (v := (-1 : Int32)) dX10_mark_21 (by decide) ?_
      exact wp_iret (ty := .int) dX10_mark_22 rfl rfl h
    · replace h := h.1 c4
      refine wp_iload_n dX10_mark_15 rfl rfl ?_
      refine wp_bipush (v := 6) dX10_mark_16 (by decide) ?_
      refine wp_icmp_lt (tgt := 23) dX10_mark_18 (by decide) (fun c5 => ?_) (fun c5 => ?_)
      · replace h := h.1 c5
        refine wp_aload_n dX10_mark_23 rfl rfl ?_
        refine wp_getR (b := 12) dX10_mark_24 rfl rfl fb_10_3 m_2_33 ?_
        refine wp_getR (b := 13) dX10_mark_27 rfl rfl fb_3_0 m_1_147 ?_
        refine wp_iload_n dX10_mark_30 rfl rfl ?_
        obtain ⟨b6, h⟩ := h
        refine wp_aald (b := (55 + x1.toNatClampNeg)) (n := 8) dX10_mark_31 rfl (by decide) rfl b6 rfl ?_
        have kb6 : kd (55 + x1.toNatClampNeg) = 4 := (kda_23 (a := 13) rfl (vp_lt b6))
        refine wp_iload_n dX10_mark_32 rfl rfl ?_
        refine wp_callVI (a := (55 + x1.toNatClampNeg)) (d1 := 1) (As := [.int x2]) (st := []) dX10_mark_33 kb6 cm_X4_isOf m_3_184 (by decide) rfl (Nat.le_of_ble_eq_true rfl) rfl h ?_
        intro r8 M7 h
        refine wp_if_ne (tgt := 45) dX10_mark_36 (by decide) (fun c9 => ?_) (fun c9 => ?_)
        · replace h := h.2 c9
          refine wp_iload_n dX10_mark_45 rfl rfl ?_
          rcases Decidable.em (x2 = 1) with n0 | n0
          · replace h := h.1 n0
            refine wp_tswI (tgt := 76) (v := 1) dX10_mark_46 n0 (by decide) (by decide) rfl (by decide) ?_
            refine wp_aload_n dX10_mark_76 rfl rfl ?_
            refine wp_getR (b := 12) dX10_mark_77 rfl rfl fb_10_3 m_2_33 ?_
            refine wp_getR (b := 13) dX10_mark_80 rfl rfl fb_3_0 m_1_147 ?_
            refine wp_iload_n dX10_mark_83 rfl rfl ?_
            obtain ⟨b10, h⟩ := h
            refine wp_aald (b := (55 + x1.toNatClampNeg)) (n := 8) dX10_mark_84 rfl (by decide) rfl b10 rfl ?_
            have kb10 : kd (55 + x1.toNatClampNeg) = 4 := (kda_23 (a := 13) rfl (vp_lt b10))
            refine wp_callVI (a := (55 + x1.toNatClampNeg)) (d1 := 2) (As := []) (st := []) dX10_mark_85 kb10 cm_X4_warmth m_3_185 (by decide) rfl (Nat.le_of_ble_eq_true rfl) rfl h ?_
            intro r12 M11 h
            refine wp_aload_n dX10_mark_88 rfl rfl ?_
            refine wp_getR (b := 12) dX10_mark_89 rfl rfl fb_10_3 m_2_33 ?_
            refine wp_getR (b := 13) dX10_mark_92 rfl rfl fb_3_0 m_1_147 ?_
            refine wp_iload_n dX10_mark_95 rfl rfl ?_
            obtain ⟨b13, h⟩ := h
            refine wp_aald (b := (55 + x1.toNatClampNeg)) (n := 8) dX10_mark_96 rfl (by decide) rfl b13 rfl ?_
            have kb13 : kd (55 + x1.toNatClampNeg) = 4 := (kda_23 (a := 13) rfl (vp_lt b13))
            refine wp_callVI (a := (55 + x1.toNatClampNeg)) (d1 := 1) (As := []) (st := [.int r12]) dX10_mark_97 kb13 cm_X4_bareWarmth m_3_186 (by decide) rfl (Nat.le_of_ble_eq_true rfl) rfl h ?_
            intro r15 M14 h
            refine wp_isub dX10_mark_100 ?_
            exact wp_iret (ty := .int) dX10_mark_101 rfl rfl h
          · replace h := h.2 n0
            rcases Decidable.em (x2 = 2) with n1 | n1
            · replace h := h.1 n1
              refine wp_tswI (tgt := 102) (v := 2) dX10_mark_46 n1 (by decide) (by decide) rfl (by decide) ?_
              refine wp_aload_n dX10_mark_102 rfl rfl ?_
              refine wp_getR (b := 12) dX10_mark_103 rfl rfl fb_10_3 m_2_33 ?_
              refine wp_iload_n dX10_mark_106 rfl rfl ?_
              refine wp_callVI (a := 12) (d1 := 4) (As := [.int x1]) (st := []) dX10_mark_107 rfl cm_X3_matesOf m_3_187 (by decide) rfl (Nat.le_of_ble_eq_true rfl) rfl h ?_
              intro r17 M16 h
              exact wp_iret (ty := .int) dX10_mark_110 rfl rfl h
            · replace h := h.2 n1
              rcases Decidable.em (x2 = 3) with n2 | n2
              · replace h := h.1 n2
                refine wp_tswI (tgt := 111) (v := 3) dX10_mark_46 n2 (by decide) (by decide) rfl (by decide) ?_
                refine wp_aload_n dX10_mark_111 rfl rfl ?_
                refine wp_getR (b := 12) dX10_mark_112 rfl rfl fb_10_3 m_2_33 ?_
                refine wp_iload_n dX10_mark_115 rfl rfl ?_
                refine wp_callVI (a := 12) (d1 := 3) (As := [.int x1]) (st := []) dX10_mark_116 rfl cm_X3_sameSortAs m_3_191 (by decide) rfl (Nat.le_of_ble_eq_true rfl) rfl h ?_
                intro r19 M18 h
                exact wp_iret (ty := .int) dX10_mark_119 rfl rfl h
              · replace h := h.2 n2
                rcases Decidable.em (x2 = 4) with n3 | n3
                · replace h := h.1 n3
                  refine wp_tswI (tgt := 120) (v := 4) dX10_mark_46 n3 (by decide) (by decide) rfl (by decide) ?_
                  refine wp_iconst (v := 0) dX10_mark_120 (by decide) ?_
                  refine wp_bipush (v := 6) dX10_mark_121 (by decide) ?_
                  refine wp_aload_n dX10_mark_123 rfl rfl ?_
                  refine wp_getR (b := 12) dX10_mark_124 rfl rfl fb_10_3 m_2_33 ?_
                  refine wp_getR (b := 13) dX10_mark_127 rfl rfl fb_3_0 m_1_147 ?_
                  refine wp_iload_n dX10_mark_130 rfl rfl ?_
                  obtain ⟨b20, h⟩ := h
                  refine wp_aald (b := (55 + x1.toNatClampNeg)) (n := 8) dX10_mark_131 rfl (by decide) rfl b20 rfl ?_
                  have kb20 : kd (55 + x1.toNatClampNeg) = 4 := (kda_23 (a := 13) rfl (vp_lt b20))
                  refine wp_getI dX10_mark_132 kb20 fb_4_4 m_1_125 ?_
                  refine wp_isub dX10_mark_135 ?_
                  refine wp_max m_3_195 (by decide) mw_max (Nat.le_of_ble_eq_true rfl) dX10_mark_136 ?_
                  exact wp_iret (ty := .int) dX10_mark_139 rfl rfl h
                · replace h := h.2 n3
                  refine wp_tswD (tgt := 140) dX10_mark_46 (by have e0 : (x2 : Int32).toInt ≠ 1 := fun e => n0 (Int32.toInt_inj.mp e); have e1 : (x2 : Int32).toInt ≠ 2 := fun e => n1 (Int32.toInt_inj.mp e); have e2 : (x2 : Int32).toInt ≠ 3 := fun e => n2 (Int32.toInt_inj.mp e); have e3 : (x2 : Int32).toInt ≠ 4 := fun e => n3 (Int32.toInt_inj.mp e); omega) (by decide) ?_
                  refine wp_aload_n dX10_mark_140 rfl rfl ?_
                  refine wp_getR (b := 36) dX10_mark_141 rfl rfl fb_10_7 m_2_37 ?_
                  refine wp_aload_n dX10_mark_144 rfl rfl ?_
                  refine wp_getR (b := 12) dX10_mark_145 rfl rfl fb_10_3 m_2_33 ?_
                  refine wp_iload_n dX10_mark_148 rfl rfl ?_
                  refine wp_callVI (a := 36) (d1 := 5) (As := [.ref (ad G 12), .int x1]) (st := []) dX10_mark_149 rfl cm_X5_gainOfStretch m_3_196 (by decide) rfl (Nat.le_of_ble_eq_true rfl) rfl h ?_
                  intro r22 M21 h
                  exact wp_iret (ty := .int) dX10_mark_152 rfl rfl h
        · replace h := h.1 c9
          refine wp_aload_n dX10_mark_39 rfl rfl ?_
          refine wp_iconst (v := 3) dX10_mark_40 (by decide) ?_
          refine wp_callVI (a := 0) (d1 := 1) (As := [.int 3]) (st := []) dX10_mark_41 rfl cm_X10_finds m_2_174 (by decide) rfl (Nat.le_of_ble_eq_true rfl) rfl h ?_
          intro r24 M23 h
          exact wp_iret (ty := .int) dX10_mark_44 rfl rfl h
      · replace h := h.2 c5
        refine wp_iconst (v := (-1 : Int32)) dX10_mark_21 (by decide) ?_
        exact wp_iret (ty := .int) dX10_mark_22 rfl rfl h
abbrev C_X10_pair (G : Glob) (x1 : Int32) (x2 : Int32) (M : Mem) (Q : Option Value → Mem → Prop) : Prop := WpM G 5 Y_X10_pair [.ref (ad G 0), .int x1, .int x2] M Q
set_option maxRecDepth 20000 in
theorem v_X10_pair {G : Glob} {x1 : Int32} {x2 : Int32} {M : Mem} {Q : Option Value → Mem → Prop}  (h : (WpM G 1 Y_X3_has [.ref (ad G 12), .int x1] M (RI (fun r2 M1 => ((r2 = 0 → Q (some (.int (-1 : Int32))) M1) ∧ (¬ r2 = 0 → (WpM G 1 Y_X3_has [.ref (ad G 12), .int x2] M1 (RI (fun r5 M4 => ((r5 = 0 → Q (some (.int (-1 : Int32))) M4) ∧ (¬ r5 = 0 → ((x1 = x2 → Q (some (.int (-1 : Int32))) M4) ∧ (¬ x1 = x2 → (vp_in x1 8 ∧ (vp_in x2 8 ∧ (WpM G 4 Y_X4_goodWith [.ref (ad G (55 + x1.toNatClampNeg)), .ref (ad G (55 + x2.toNatClampNeg))] M4 (RI (fun r11 M10 => Q (some (.int r11)) M10)))))))))))))))))) : C_X10_pair G x1 x2 M Q := by
  refine wp_enter (ls0 := [some (.ref (ad G 0)), some (.int x1), some (.int x2)]) (by decide +kernel) (Nat.le_of_ble_eq_true rfl) rfl ?_
  refine wp_aload_n dX10_pair_0 rfl rfl ?_
  refine wp_getR (b := 12) dX10_pair_1 rfl rfl fb_10_3 m_2_33 ?_
  refine wp_iload_n dX10_pair_4 rfl rfl ?_
  refine wp_callVI (a := 12) (d1 := 1) (As := [.int x1]) (st := []) dX10_pair_5 rfl cm_X3_has m_2_74 (by decide) rfl (Nat.le_of_ble_eq_true rfl) rfl h ?_
  intro r2 M1 h
  refine wp_if_eq (tgt := 27) dX10_pair_8 (by decide) (fun c3 => ?_) (fun c3 => ?_)
  · replace h := h.1 c3
    refine wp_iconst (v := (-1 : Int32)) dX10_pair_27 (by decide) ?_
    exact wp_iret (ty := .int) dX10_pair_28 rfl rfl h
  · replace h := h.2 c3
    refine wp_aload_n dX10_pair_11 rfl rfl ?_
    refine wp_getR (b := 12) dX10_pair_12 rfl rfl fb_10_3 m_2_33 ?_
    refine wp_iload_n dX10_pair_15 rfl rfl ?_
    refine wp_callVI (a := 12) (d1 := 1) (As := [.int x2]) (st := []) dX10_pair_16 rfl cm_X3_has m_2_74 (by decide) rfl (Nat.le_of_ble_eq_true rfl) rfl h ?_
    intro r5 M4 h
    refine wp_if_eq (tgt := 27) dX10_pair_19 (by decide) (fun c6 => ?_) (fun c6 => ?_)
    · replace h := h.1 c6
      refine wp_iconst (v := (-1 : Int32)) dX10_pair_27 (by decide) ?_
      exact wp_iret (ty := .int) dX10_pair_28 rfl rfl h
    · replace h := h.2 c6
      refine wp_iload_n dX10_pair_22 rfl rfl ?_
      refine wp_iload_n dX10_pair_23 rfl rfl ?_
      refine wp_icmp_ne (tgt := 29) dX10_pair_24 (by decide) (fun c7 => ?_) (fun c7 => ?_)
      · replace h := h.2 c7
        refine wp_aload_n dX10_pair_29 rfl rfl ?_
        refine wp_getR (b := 12) dX10_pair_30 rfl rfl fb_10_3 m_2_33 ?_
        refine wp_getR (b := 13) dX10_pair_33 rfl rfl fb_3_0 m_1_147 ?_
        refine wp_iload_n dX10_pair_36 rfl rfl ?_
        obtain ⟨b8, h⟩ := h
        refine wp_aald (b := (55 + x1.toNatClampNeg)) (n := 8) dX10_pair_37 rfl (by decide) rfl b8 rfl ?_
        have kb8 : kd (55 + x1.toNatClampNeg) = 4 := (kda_23 (a := 13) rfl (vp_lt b8))
        refine wp_aload_n dX10_pair_38 rfl rfl ?_
        refine wp_getR (b := 12) dX10_pair_39 rfl rfl fb_10_3 m_2_33 ?_
        refine wp_getR (b := 13) dX10_pair_42 rfl rfl fb_3_0 m_1_147 ?_
        refine wp_iload_n dX10_pair_45 rfl rfl ?_
        obtain ⟨b9, h⟩ := h
        refine wp_aald (b := (55 + x2.toNatClampNeg)) (n := 8) dX10_pair_46 rfl (by decide) rfl b9 rfl ?_
        have kb9 : kd (55 + x2.toNatClampNeg) = 4 := (kda_23 (a := 13) rfl (vp_lt b9))
        refine wp_callVI (a := (55 + x1.toNatClampNeg)) (d1 := 4) (As := [.ref (ad G (55 + x2.toNatClampNeg))]) (st := []) dX10_pair_47 kb8 cm_X4_goodWith m_2_78 (by decide) rfl (Nat.le_of_ble_eq_true rfl) rfl h ?_
        intro r11 M10 h
        exact wp_iret (ty := .int) dX10_pair_50 rfl rfl h
      · replace h := h.1 c7
        refine wp_iconst (v := (-1 : Int32)) dX10_pair_27 (by decide) ?_
        exact wp_iret (ty := .int) dX10_pair_28 rfl rfl h
abbrev C_X10_wear (G : Glob) (x1 : Int32) (x2 : Int32) (M : Mem) (Q : Option Value → Mem → Prop) : Prop := WpM G 5 Y_X10_wear [.ref (ad G 0), .int x1, .int x2] M Q
set_option maxRecDepth 20000 in
theorem v_X10_wear {G : Glob} {x1 : Int32} {x2 : Int32} {M : Mem} {Q : Option Value → Mem → Prop}  (h : (WpM G 1 Y_X3_has [.ref (ad G 12), .int x1] M (RI (fun r2 M1 => ((r2 = 0 → Q (some (.int (-1 : Int32))) M1) ∧ (¬ r2 = 0 → (WpM G 1 Y_X3_has [.ref (ad G 12), .int x2] M1 (RI (fun r5 M4 => ((r5 = 0 → Q (some (.int (-1 : Int32))) M4) ∧ (¬ r5 = 0 → ((x1 = x2 → Q (some (.int (-1 : Int32))) M4) ∧ (¬ x1 = x2 → (vp_in x1 8 ∧ (vp_in x2 8 ∧ (WpM G 4 Y_X4_goodWith [.ref (ad G (55 + x1.toNatClampNeg)), .ref (ad G (55 + x2.toNatClampNeg))] M4 (RI (fun r11 M10 => (WpM G 2 Y_X3_isInside [.ref (ad G 12), .int x1] M10 (RI (fun r13 M12 => ((r13 = 0 → Q (some (.int (-4 : Int32))) M12) ∧ (¬ r13 = 0 → (WpM G 2 Y_X3_isInside [.ref (ad G 12), .int x2] M12 (RI (fun r16 M15 => ((r16 = 0 → Q (some (.int (-4 : Int32))) M15) ∧ (¬ r16 = 0 → ((r11 = (-9 : Int32) → Q (some (.int (-4 : Int32))) M15) ∧ (¬ r11 = (-9 : Int32) → (WpM G 1 Y_X2_roomLeft [.ref (ad G 14)] M15 (RI (fun r20 M19 => ((r20 < 1 → Q (some (.int (-2 : Int32))) M19) ∧ (¬ r20 < 1 → (WpM G 3 Y_X3_act [.ref (ad G 12), .int 1, .int x1, .int x2] M19 (RV (fun M22 => Q (some (.int r11)) M22)))))))))))))))))))))))))))))))))))))) : C_X10_wear G x1 x2 M Q := by
  refine wp_enter (ls0 := [some (.ref (ad G 0)), some (.int x1), some (.int x2), none]) (by decide +kernel) (Nat.le_of_ble_eq_true rfl) rfl ?_
  refine wp_aload_n dX10_wear_0 rfl rfl ?_
  refine wp_getR (b := 12) dX10_wear_1 rfl rfl fb_10_3 m_2_33 ?_
  refine wp_iload_n dX10_wear_4 rfl rfl ?_
  refine wp_callVI (a := 12) (d1 := 1) (As := [.int x1]) (st := []) dX10_wear_5 rfl cm_X3_has m_2_74 (by decide) rfl (Nat.le_of_ble_eq_true rfl) rfl h ?_
  intro r2 M1 h
  refine wp_if_eq (tgt := 27) dX10_wear_8 (by decide) (fun c3 => ?_) (fun c3 => ?_)
  · replace h := h.1 c3
    refine wp_iconst (v := (-1 : Int32)) dX10_wear_27 (by decide) ?_
    exact wp_iret (ty := .int) dX10_wear_28 rfl rfl h
  · replace h := h.2 c3
    refine wp_aload_n dX10_wear_11 rfl rfl ?_
    refine wp_getR (b := 12) dX10_wear_12 rfl rfl fb_10_3 m_2_33 ?_
    refine wp_iload_n dX10_wear_15 rfl rfl ?_
    refine wp_callVI (a := 12) (d1 := 1) (As := [.int x2]) (st := []) dX10_wear_16 rfl cm_X3_has m_2_74 (by decide) rfl (Nat.le_of_ble_eq_true rfl) rfl h ?_
    intro r5 M4 h
    refine wp_if_eq (tgt := 27) dX10_wear_19 (by decide) (fun c6 => ?_) (fun c6 => ?_)
    · replace h := h.1 c6
      refine wp_iconst (v := (-1 : Int32)) dX10_wear_27 (by decide) ?_
      exact wp_iret (ty := .int) dX10_wear_28 rfl rfl h
    · replace h := h.2 c6
      refine wp_iload_n dX10_wear_22 rfl rfl ?_
      refine wp_iload_n dX10_wear_23 rfl rfl ?_
      refine wp_icmp_ne (tgt := 29) dX10_wear_24 (by decide) (fun c7 => ?_) (fun c7 => ?_)
      · replace h := h.2 c7
        refine wp_aload_n dX10_wear_29 rfl rfl ?_
        refine wp_getR (b := 12) dX10_wear_30 rfl rfl fb_10_3 m_2_33 ?_
        refine wp_getR (b := 13) dX10_wear_33 rfl rfl fb_3_0 m_1_147 ?_
        refine wp_iload_n dX10_wear_36 rfl rfl ?_
        obtain ⟨b8, h⟩ := h
        refine wp_aald (b := (55 + x1.toNatClampNeg)) (n := 8) dX10_wear_37 rfl (by decide) rfl b8 rfl ?_
        have kb8 : kd (55 + x1.toNatClampNeg) = 4 := (kda_23 (a := 13) rfl (vp_lt b8))
        refine wp_aload_n dX10_wear_38 rfl rfl ?_
        refine wp_getR (b := 12) dX10_wear_39 rfl rfl fb_10_3 m_2_33 ?_
        refine wp_getR (b := 13) dX10_wear_42 rfl rfl fb_3_0 m_1_147 ?_
        refine wp_iload_n dX10_wear_45 rfl rfl ?_
        obtain ⟨b9, h⟩ := h
        refine wp_aald (b := (55 + x2.toNatClampNeg)) (n := 8) dX10_wear_46 rfl (by decide) rfl b9 rfl ?_
        have kb9 : kd (55 + x2.toNatClampNeg) = 4 := (kda_23 (a := 13) rfl (vp_lt b9))
        refine wp_callVI (a := (55 + x1.toNatClampNeg)) (d1 := 4) (As := [.ref (ad G (55 + x2.toNatClampNeg))]) (st := []) dX10_wear_47 kb8 cm_X4_goodWith m_2_78 (by decide) rfl (Nat.le_of_ble_eq_true rfl) rfl h ?_
        intro r11 M10 h
        refine wp_istore_n (ls' := [some (.ref (ad G 0)), some (.int x1), some (.int x2), some (.int r11)]) dX10_wear_50 rfl (by decide) rfl rfl ?_
        refine wp_aload_n dX10_wear_51 rfl rfl ?_
        refine wp_getR (b := 12) dX10_wear_52 rfl rfl fb_10_3 m_2_33 ?_
        refine wp_iload_n dX10_wear_55 rfl rfl ?_
        refine wp_callVI (a := 12) (d1 := 2) (As := [.int x1]) (st := []) dX10_wear_56 rfl cm_X3_isInside m_2_106 (by decide) rfl (Nat.le_of_ble_eq_true rfl) rfl h ?_
        intro r13 M12 h
        refine wp_if_eq (tgt := 79) dX10_wear_59 (by decide) (fun c14 => ?_) (fun c14 => ?_)
        · replace h := h.1 c14
          refine wp_bipush (v := (-4 : Int32)) dX10_wear_79 (by decide) ?_
          exact wp_iret (ty := .int) dX10_wear_81 rfl rfl h
        · replace h := h.2 c14
          refine wp_aload_n dX10_wear_62 rfl rfl ?_
          refine wp_getR (b := 12) dX10_wear_63 rfl rfl fb_10_3 m_2_33 ?_
          refine wp_iload_n dX10_wear_66 rfl rfl ?_
          refine wp_callVI (a := 12) (d1 := 2) (As := [.int x2]) (st := []) dX10_wear_67 rfl cm_X3_isInside m_2_106 (by decide) rfl (Nat.le_of_ble_eq_true rfl) rfl h ?_
          intro r16 M15 h
          refine wp_if_eq (tgt := 79) dX10_wear_70 (by decide) (fun c17 => ?_) (fun c17 => ?_)
          · replace h := h.1 c17
            refine wp_bipush (v := (-4 : Int32)) dX10_wear_79 (by decide) ?_
            exact wp_iret (ty := .int) dX10_wear_81 rfl rfl h
          · replace h := h.2 c17
            refine wp_iload_n dX10_wear_73 rfl rfl ?_
            refine wp_bipush (v := (-9 : Int32)) dX10_wear_74 (by decide) ?_
            refine wp_icmp_ne (tgt := 82) dX10_wear_76 (by decide) (fun c18 => ?_) (fun c18 => ?_)
            · replace h := h.2 c18
              refine wp_aload_n dX10_wear_82 rfl rfl ?_
              refine wp_getR (b := 12) dX10_wear_83 rfl rfl fb_10_3 m_2_33 ?_
              refine wp_getR (b := 14) dX10_wear_86 rfl rfl fb_3_1 m_1_149 ?_
              refine wp_callVI (a := 14) (d1 := 1) (As := []) (st := []) dX10_wear_89 rfl cm_X2_roomLeft m_2_111 (by decide) rfl (Nat.le_of_ble_eq_true rfl) rfl h ?_
              intro r20 M19 h
              refine wp_iconst (v := 1) dX10_wear_92 (by decide) ?_
              refine wp_icmp_ge (tgt := 99) dX10_wear_93 (by decide) (fun c21 => ?_) (fun c21 => ?_)
              · replace h := h.2 c21
                refine wp_aload_n dX10_wear_99 rfl rfl ?_
                refine wp_getR (b := 12) dX10_wear_100 rfl rfl fb_10_3 m_2_33 ?_
                refine wp_iconst (v := 1) dX10_wear_103 (by decide) ?_
                refine wp_iload_n dX10_wear_104 rfl rfl ?_
                refine wp_iload_n dX10_wear_105 rfl rfl ?_
                refine wp_callVV (a := 12) (d1 := 3) (As := [.int 1, .int x1, .int x2]) (st := []) dX10_wear_106 rfl cm_X3_act m_2_115 (by decide) rfl (Nat.le_of_ble_eq_true rfl) rfl h ?_
                intro M22 h
                refine wp_iload_n dX10_wear_109 rfl rfl ?_
                exact wp_iret (ty := .int) dX10_wear_110 rfl rfl h
              · replace h := h.1 c21
                refine wp_bipush (v := (-2 : Int32)) dX10_wear_96 (by decide) ?_
                exact wp_iret (ty := .int) dX10_wear_98 rfl rfl h
            · replace h := h.1 c18
              refine wp_bipush (v := (-4 : Int32)) dX10_wear_79 (by decide) ?_
              exact wp_iret (ty := .int) dX10_wear_81 rfl rfl h
      · replace h := h.1 c7
        refine wp_iconst (v := (-1 : Int32)) dX10_wear_27 (by decide) ?_
        exact wp_iret (ty := .int) dX10_wear_28 rfl rfl h
abbrev C_X10_lose (G : Glob) (x1 : Int32) (M : Mem) (Q : Option Value → Mem → Prop) : Prop := WpM G 4 Y_X10_lose [.ref (ad G 0), .int x1] M Q
set_option maxRecDepth 20000 in
theorem v_X10_lose {G : Glob} {x1 : Int32} {M : Mem} {Q : Option Value → Mem → Prop}  (h : (WpM G 1 Y_X3_has [.ref (ad G 12), .int x1] M (RI (fun r2 M1 => ((r2 = 0 → Q (some (.int (-1 : Int32))) M1) ∧ (¬ r2 = 0 → (WpM G 3 Y_X3_canBeLost [.ref (ad G 12), .int x1] M1 (RI (fun r5 M4 => ((r5 = 0 → Q (some (.int (-4 : Int32))) M4) ∧ (¬ r5 = 0 → (WpM G 1 Y_X2_roomLeft [.ref (ad G 14)] M4 (RI (fun r8 M7 => ((r8 < 1 → Q (some (.int (-2 : Int32))) M7) ∧ (¬ r8 < 1 → (WpM G 3 Y_X3_act [.ref (ad G 12), .int 2, .int x1, .int x1] M7 (RV (fun M10 => (WpM G 2 Y_X3_howManyInside [.ref (ad G 12)] M10 (RI (fun r12 M11 => Q (some (.int r12)) M11)))))))))))))))))))))) : C_X10_lose G x1 M Q := by
  refine wp_enter (ls0 := [some (.ref (ad G 0)), some (.int x1)]) (by decide +kernel) (Nat.le_of_ble_eq_true rfl) rfl ?_
  refine wp_aload_n dX10_lose_0 rfl rfl ?_
  refine wp_getR (b := 12) dX10_lose_1 rfl rfl fb_10_3 m_2_33 ?_
  refine wp_iload_n dX10_lose_4 rfl rfl ?_
  refine wp_callVI (a := 12) (d1 := 1) (As := [.int x1]) (st := []) dX10_lose_5 rfl cm_X3_has m_2_74 (by decide) rfl (Nat.le_of_ble_eq_true rfl) rfl h ?_
  intro r2 M1 h
  refine wp_if_ne (tgt := 13) dX10_lose_8 (by decide) (fun c3 => ?_) (fun c3 => ?_)
  · replace h := h.2 c3
    refine wp_aload_n dX10_lose_13 rfl rfl ?_
    refine wp_getR (b := 12) dX10_lose_14 rfl rfl fb_10_3 m_2_33 ?_
    refine wp_iload_n dX10_lose_17 rfl rfl ?_
    refine wp_callVI (a := 12) (d1 := 3) (As := [.int x1]) (st := []) dX10_lose_18 rfl cm_X3_canBeLost m_2_131 (by decide) rfl (Nat.le_of_ble_eq_true rfl) rfl h ?_
    intro r5 M4 h
    refine wp_if_ne (tgt := 27) dX10_lose_21 (by decide) (fun c6 => ?_) (fun c6 => ?_)
    · replace h := h.2 c6
      refine wp_aload_n dX10_lose_27 rfl rfl ?_
      refine wp_getR (b := 12) dX10_lose_28 rfl rfl fb_10_3 m_2_33 ?_
      refine wp_getR (b := 14) dX10_lose_31 rfl rfl fb_3_1 m_1_149 ?_
      refine wp_callVI (a := 14) (d1 := 1) (As := []) (st := []) dX10_lose_34 rfl cm_X2_roomLeft m_2_111 (by decide) rfl (Nat.le_of_ble_eq_true rfl) rfl h ?_
      intro r8 M7 h
      refine wp_iconst (v := 1) dX10_lose_37 (by decide) ?_
      refine wp_icmp_ge (tgt := 44) dX10_lose_38 (by decide) (fun c9 => ?_) (fun c9 => ?_)
      · replace h := h.2 c9
        refine wp_aload_n dX10_lose_44 rfl rfl ?_
        refine wp_getR (b := 12) dX10_lose_45 rfl rfl fb_10_3 m_2_33 ?_
        refine wp_iconst (v := 2) dX10_lose_48 (by decide) ?_
        refine wp_iload_n dX10_lose_49 rfl rfl ?_
        refine wp_iload_n dX10_lose_50 rfl rfl ?_
        refine wp_callVV (a := 12) (d1 := 3) (As := [.int 2, .int x1, .int x1]) (st := []) dX10_lose_51 rfl cm_X3_act m_2_115 (by decide) rfl (Nat.le_of_ble_eq_true rfl) rfl h ?_
        intro M10 h
        refine wp_aload_n dX10_lose_54 rfl rfl ?_
        refine wp_getR (b := 12) dX10_lose_55 rfl rfl fb_10_3 m_2_33 ?_
        refine wp_callVI (a := 12) (d1 := 2) (As := []) (st := []) dX10_lose_58 rfl cm_X3_howManyInside m_2_136 (by decide) rfl (Nat.le_of_ble_eq_true rfl) rfl h ?_
        intro r12 M11 h
        exact wp_iret (ty := .int) dX10_lose_61 rfl rfl h
      · replace h := h.1 c9
        refine wp_bipush (v := (-2 : Int32)) dX10_lose_41 (by decide) ?_
        exact wp_iret (ty := .int) dX10_lose_43 rfl rfl h
    · replace h := h.1 c6
      refine wp_bipush (v := (-4 : Int32)) dX10_lose_24 (by decide) ?_
      exact wp_iret (ty := .int) dX10_lose_26 rfl rfl h
  · replace h := h.1 c3
    refine wp_iconst (v := (-1 : Int32)) dX10_lose_11 (by decide) ?_
    exact wp_iret (ty := .int) dX10_lose_12 rfl rfl h
abbrev C_X10_back (G : Glob) (x1 : Int32) (M : Mem) (Q : Option Value → Mem → Prop) : Prop := WpM G 4 Y_X10_back [.ref (ad G 0), .int x1] M Q
set_option maxRecDepth 20000 in
theorem v_X10_back {G : Glob} {x1 : Int32} {M : Mem} {Q : Option Value → Mem → Prop}  (h : (WpM G 1 Y_X3_has [.ref (ad G 12), .int x1] M (RI (fun r2 M1 => ((r2 = 0 → Q (some (.int (-1 : Int32))) M1) ∧ (¬ r2 = 0 → (vp_in x1 8 ∧ (((M1.1 (55 + x1.toNatClampNeg) 5) = 1 → (WpM G 3 Y_X3_hasRoom [.ref (ad G 12)] M1 (RI (fun r7 M6 => ((r7 = 0 → Q (some (.int (-6 : Int32))) M6) ∧ (¬ r7 = 0 → (WpM G 1 Y_X2_roomLeft [.ref (ad G 14)] M6 (RI (fun r10 M9 => ((r10 < 1 → Q (some (.int (-2 : Int32))) M9) ∧ (¬ r10 < 1 → (WpM G 3 Y_X3_act [.ref (ad G 12), .int 3, .int x1, .int x1] M9 (RV (fun M12 => (WpM G 2 Y_X3_howManyInside [.ref (ad G 12)] M12 (RI (fun r14 M13 => Q (some (.int r14)) M13))))))))))))))))) ∧ (¬ (M1.1 (55 + x1.toNatClampNeg) 5) = 1 → Q (some (.int (-4 : Int32))) M1))))))))) : C_X10_back G x1 M Q := by
  refine wp_enter (ls0 := [some (.ref (ad G 0)), some (.int x1)]) (by decide +kernel) (Nat.le_of_ble_eq_true rfl) rfl ?_
  refine wp_aload_n dX10_back_0 rfl rfl ?_
  refine wp_getR (b := 12) dX10_back_1 rfl rfl fb_10_3 m_2_33 ?_
  refine wp_iload_n dX10_back_4 rfl rfl ?_
  refine wp_callVI (a := 12) (d1 := 1) (As := [.int x1]) (st := []) dX10_back_5 rfl cm_X3_has m_2_74 (by decide) rfl (Nat.le_of_ble_eq_true rfl) rfl h ?_
  intro r2 M1 h
  refine wp_if_ne (tgt := 13) dX10_back_8 (by decide) (fun c3 => ?_) (fun c3 => ?_)
  · replace h := h.2 c3
    refine wp_aload_n dX10_back_13 rfl rfl ?_
    refine wp_getR (b := 12) dX10_back_14 rfl rfl fb_10_3 m_2_33 ?_
    refine wp_getR (b := 13) dX10_back_17 rfl rfl fb_3_0 m_1_147 ?_
    refine wp_iload_n dX10_back_20 rfl rfl ?_
    obtain ⟨b4, h⟩ := h
    refine wp_aald (b := (55 + x1.toNatClampNeg)) (n := 8) dX10_back_21 rfl (by decide) rfl b4 rfl ?_
    have kb4 : kd (55 + x1.toNatClampNeg) = 4 := (kda_23 (a := 13) rfl (vp_lt b4))
    refine wp_getI dX10_back_22 kb4 fb_4_5 m_1_128 ?_
    refine wp_iconst (v := 1) dX10_back_25 (by decide) ?_
    refine wp_icmp_eq (tgt := 32) dX10_back_26 (by decide) (fun c5 => ?_) (fun c5 => ?_)
    · replace h := h.1 c5
      refine wp_aload_n dX10_back_32 rfl rfl ?_
      refine wp_getR (b := 12) dX10_back_33 rfl rfl fb_10_3 m_2_33 ?_
      refine wp_callVI (a := 12) (d1 := 3) (As := []) (st := []) dX10_back_36 rfl cm_X3_hasRoom m_3_214 (by decide) rfl (Nat.le_of_ble_eq_true rfl) rfl h ?_
      intro r7 M6 h
      refine wp_if_ne (tgt := 45) dX10_back_39 (by decide) (fun c8 => ?_) (fun c8 => ?_)
      · replace h := h.2 c8
        refine wp_aload_n dX10_back_45 rfl rfl ?_
        refine wp_getR (b := 12) dX10_back_46 rfl rfl fb_10_3 m_2_33 ?_
        refine wp_getR (b := 14) dX10_back_49 rfl rfl fb_3_1 m_1_149 ?_
        refine wp_callVI (a := 14) (d1 := 1) (As := []) (st := []) dX10_back_52 rfl cm_X2_roomLeft m_2_111 (by decide) rfl (Nat.le_of_ble_eq_true rfl) rfl h ?_
        intro r10 M9 h
        refine wp_iconst (v := 1) dX10_back_55 (by decide) ?_
        refine wp_icmp_ge (tgt := 62) dX10_back_56 (by decide) (fun c11 => ?_) (fun c11 => ?_)
        · replace h := h.2 c11
          refine wp_aload_n dX10_back_62 rfl rfl ?_
          refine wp_getR (b := 12) dX10_back_63 rfl rfl fb_10_3 m_2_33 ?_
          refine wp_iconst (v := 3) dX10_back_66 (by decide) ?_
          refine wp_iload_n dX10_back_67 rfl rfl ?_
          refine wp_iload_n dX10_back_68 rfl rfl ?_
          refine wp_callVV (a := 12) (d1 := 3) (As := [.int 3, .int x1, .int x1]) (st := []) dX10_back_69 rfl cm_X3_act m_2_115 (by decide) rfl (Nat.le_of_ble_eq_true rfl) rfl h ?_
          intro M12 h
          refine wp_aload_n dX10_back_72 rfl rfl ?_
          refine wp_getR (b := 12) dX10_back_73 rfl rfl fb_10_3 m_2_33 ?_
          refine wp_callVI (a := 12) (d1 := 2) (As := []) (st := []) dX10_back_76 rfl cm_X3_howManyInside m_2_136 (by decide) rfl (Nat.le_of_ble_eq_true rfl) rfl h ?_
          intro r14 M13 h
          exact wp_iret (ty := .int) dX10_back_79 rfl rfl h
        · replace h := h.1 c11
          refine wp_bipush (v := (-2 : Int32)) dX10_back_59 (by decide) ?_
          exact wp_iret (ty := .int) dX10_back_61 rfl rfl h
      · replace h := h.1 c8
        refine wp_bipush (v := (-6 : Int32)) dX10_back_42 (by decide) ?_
        exact wp_iret (ty := .int) dX10_back_44 rfl rfl h
    · replace h := h.2 c5
      refine wp_bipush (v := (-4 : Int32)) dX10_back_29 (by decide) ?_
      exact wp_iret (ty := .int) dX10_back_31 rfl rfl h
  · replace h := h.1 c3
    refine wp_iconst (v := (-1 : Int32)) dX10_back_11 (by decide) ?_
    exact wp_iret (ty := .int) dX10_back_12 rfl rfl h
abbrev C_X10_out (G : Glob) (x1 : Int32) (M : Mem) (Q : Option Value → Mem → Prop) : Prop := WpM G 4 Y_X10_out [.ref (ad G 0), .int x1] M Q
set_option maxRecDepth 20000 in
theorem v_X10_out {G : Glob} {x1 : Int32} {M : Mem} {Q : Option Value → Mem → Prop}  (h : (WpM G 1 Y_X3_has [.ref (ad G 12), .int x1] M (RI (fun r2 M1 => ((r2 = 0 → Q (some (.int (-1 : Int32))) M1) ∧ (¬ r2 = 0 → (vp_in x1 8 ∧ (((M1.1 (55 + x1.toNatClampNeg) 5) = 2 → Q (some (.int (-4 : Int32))) M1) ∧ (¬ (M1.1 (55 + x1.toNatClampNeg) 5) = 2 → (WpM G 1 Y_X2_roomLeft [.ref (ad G 14)] M1 (RI (fun r7 M6 => ((r7 < 1 → Q (some (.int (-2 : Int32))) M6) ∧ (¬ r7 < 1 → (WpM G 3 Y_X3_act [.ref (ad G 12), .int 4, .int x1, .int x1] M6 (RV (fun M9 => (WpM G 2 Y_X3_howManyInside [.ref (ad G 12)] M9 (RI (fun r11 M10 => Q (some (.int r11)) M10)))))))))))))))))))) : C_X10_out G x1 M Q := by
  refine wp_enter (ls0 := [some (.ref (ad G 0)), some (.int x1)]) (by decide +kernel) (Nat.le_of_ble_eq_true rfl) rfl ?_
  refine wp_aload_n dX10_out_0 rfl rfl ?_
  refine wp_getR (b := 12) dX10_out_1 rfl rfl fb_10_3 m_2_33 ?_
  refine wp_iload_n dX10_out_4 rfl rfl ?_
  refine wp_callVI (a := 12) (d1 := 1) (As := [.int x1]) (st := []) dX10_out_5 rfl cm_X3_has m_2_74 (by decide) rfl (Nat.le_of_ble_eq_true rfl) rfl h ?_
  intro r2 M1 h
  refine wp_if_ne (tgt := 13) dX10_out_8 (by decide) (fun c3 => ?_) (fun c3 => ?_)
  · replace h := h.2 c3
    refine wp_aload_n dX10_out_13 rfl rfl ?_
    refine wp_getR (b := 12) dX10_out_14 rfl rfl fb_10_3 m_2_33 ?_
    refine wp_getR (b := 13) dX10_out_17 rfl rfl fb_3_0 m_1_147 ?_
    refine wp_iload_n dX10_out_20 rfl rfl ?_
    obtain ⟨b4, h⟩ := h
    refine wp_aald (b := (55 + x1.toNatClampNeg)) (n := 8) dX10_out_21 rfl (by decide) rfl b4 rfl ?_
    have kb4 : kd (55 + x1.toNatClampNeg) = 4 := (kda_23 (a := 13) rfl (vp_lt b4))
    refine wp_getI dX10_out_22 kb4 fb_4_5 m_1_128 ?_
    refine wp_iconst (v := 2) dX10_out_25 (by decide) ?_
    refine wp_icmp_ne (tgt := 32) dX10_out_26 (by decide) (fun c5 => ?_) (fun c5 => ?_)
    · replace h := h.2 c5
      refine wp_aload_n dX10_out_32 rfl rfl ?_
      refine wp_getR (b := 12) dX10_out_33 rfl rfl fb_10_3 m_2_33 ?_
      refine wp_getR (b := 14) dX10_out_36 rfl rfl fb_3_1 m_1_149 ?_
      refine wp_callVI (a := 14) (d1 := 1) (As := []) (st := []) dX10_out_39 rfl cm_X2_roomLeft m_2_111 (by decide) rfl (Nat.le_of_ble_eq_true rfl) rfl h ?_
      intro r7 M6 h
      refine wp_iconst (v := 1) dX10_out_42 (by decide) ?_
      refine wp_icmp_ge (tgt := 49) dX10_out_43 (by decide) (fun c8 => ?_) (fun c8 => ?_)
      · replace h := h.2 c8
        refine wp_aload_n dX10_out_49 rfl rfl ?_
        refine wp_getR (b := 12) dX10_out_50 rfl rfl fb_10_3 m_2_33 ?_
        refine wp_iconst (v := 4) dX10_out_53 (by decide) ?_
        refine wp_iload_n dX10_out_54 rfl rfl ?_
        refine wp_iload_n dX10_out_55 rfl rfl ?_
        refine wp_callVV (a := 12) (d1 := 3) (As := [.int 4, .int x1, .int x1]) (st := []) dX10_out_56 rfl cm_X3_act m_2_115 (by decide) rfl (Nat.le_of_ble_eq_true rfl) rfl h ?_
        intro M9 h
        refine wp_aload_n dX10_out_59 rfl rfl ?_
        refine wp_getR (b := 12) dX10_out_60 rfl rfl fb_10_3 m_2_33 ?_
        refine wp_callVI (a := 12) (d1 := 2) (As := []) (st := []) dX10_out_63 rfl cm_X3_howManyInside m_2_136 (by decide) rfl (Nat.le_of_ble_eq_true rfl) rfl h ?_
        intro r11 M10 h
        exact wp_iret (ty := .int) dX10_out_66 rfl rfl h
      · replace h := h.1 c8
        refine wp_bipush (v := (-2 : Int32)) dX10_out_46 (by decide) ?_
        exact wp_iret (ty := .int) dX10_out_48 rfl rfl h
    · replace h := h.1 c5
      refine wp_bipush (v := (-4 : Int32)) dX10_out_29 (by decide) ?_
      exact wp_iret (ty := .int) dX10_out_31 rfl rfl h
  · replace h := h.1 c3
    refine wp_iconst (v := (-1 : Int32)) dX10_out_11 (by decide) ?_
    exact wp_iret (ty := .int) dX10_out_12 rfl rfl h
abbrev C_X10_undo (G : Glob) (x1 : Int32) (M : Mem) (Q : Option Value → Mem → Prop) : Prop := WpM G 4 Y_X10_undo [.ref (ad G 0), .int x1] M Q
set_option maxRecDepth 20000 in
theorem v_X10_undo {G : Glob} {x1 : Int32} {M : Mem} {Q : Option Value → Mem → Prop}  (h : ((x1 < 0 → Q (some (.int (-1 : Int32))) M) ∧ (¬ x1 < 0 → (((M.1 14 1) < x1 → Q (some (.int (-1 : Int32))) M) ∧ (¬ (M.1 14 1) < x1 → (∀ M3 : Mem, M3 = upI M 14 1 x1 → (WpM G 3 Y_X3_replay [.ref (ad G 12)] M3 (RV (fun M4 => Q (some (.int ((M.1 14 1) - x1))) M4))))))))) : C_X10_undo G x1 M Q := by
  refine wp_enter (ls0 := [some (.ref (ad G 0)), some (.int x1), none]) (by decide +kernel) (Nat.le_of_ble_eq_true rfl) rfl ?_
  refine wp_aload_n dX10_undo_0 rfl rfl ?_
  refine wp_getR (b := 12) dX10_undo_1 rfl rfl fb_10_3 m_2_33 ?_
  refine wp_getR (b := 14) dX10_undo_4 rfl rfl fb_3_1 m_1_149 ?_
  refine wp_getI dX10_undo_7 rfl fb_2_1 m_1_95 ?_
  refine wp_istore_n (ls' := [some (.ref (ad G 0)), some (.int x1), some (.int (M.1 14 1))]) dX10_undo_10 rfl (by decide) rfl rfl ?_
  refine wp_iload_n dX10_undo_11 rfl rfl ?_
  refine wp_if_lt (tgt := 20) dX10_undo_12 (by decide) (fun c1 => ?_) (fun c1 => ?_)
  · replace h := h.1 c1
    refine wp_iconst (v := (-1 : Int32)) dX10_undo_20 (by decide) ?_
    exact wp_iret (ty := .int) dX10_undo_21 rfl rfl h
  · replace h := h.2 c1
    refine wp_iload_n dX10_undo_15 rfl rfl ?_
    refine wp_iload_n dX10_undo_16 rfl rfl ?_
    refine wp_icmp_le (tgt := 22) dX10_undo_17 (by decide) (fun c2 => ?_) (fun c2 => ?_)
    · replace h := h.2 c2
      refine wp_aload_n dX10_undo_22 rfl rfl ?_
      refine wp_getR (b := 12) dX10_undo_23 rfl rfl fb_10_3 m_2_33 ?_
      refine wp_getR (b := 14) dX10_undo_26 rfl rfl fb_3_1 m_1_149 ?_
      refine wp_iload_n dX10_undo_29 rfl rfl ?_
      refine wp_putI dX10_undo_30 rfl fp_2_1 m_1_95 ?_
      refine wp_topM (fun M3 hM3 => ?_)
      replace h := h M3 hM3
      refine wp_aload_n dX10_undo_33 rfl rfl ?_
      refine wp_getR (b := 12) dX10_undo_34 rfl rfl fb_10_3 m_2_33 ?_
      refine wp_callVV (a := 12) (d1 := 3) (As := []) (st := []) dX10_undo_37 rfl cm_X3_replay m_2_158 (by decide) rfl (Nat.le_of_ble_eq_true rfl) rfl h ?_
      intro M4 h
      refine wp_iload_n dX10_undo_40 rfl rfl ?_
      refine wp_iload_n dX10_undo_41 rfl rfl ?_
      refine wp_isub dX10_undo_42 ?_
      exact wp_iret (ty := .int) dX10_undo_43 rfl rfl h
    · replace h := h.1 c2
      refine wp_iconst (v := (-1 : Int32)) dX10_undo_20 (by decide) ?_
      exact wp_iret (ty := .int) dX10_undo_21 rfl rfl h
abbrev C_X10_keep (G : Glob) (x1 : Int32) (M : Mem) (Q : Option Value → Mem → Prop) : Prop := WpM G 2 Y_X10_keep [.ref (ad G 0), .int x1] M Q
set_option maxRecDepth 20000 in
theorem v_X10_keep {G : Glob} {x1 : Int32} {M : Mem} {Q : Option Value → Mem → Prop}  (h : ((x1 < 0 → Q (some (.int (-1 : Int32))) M) ∧ (¬ x1 < 0 → ((x1 < 3 → (((M.1 12 2) = 0 → Q (some (.int (-4 : Int32))) M) ∧ (¬ (M.1 12 2) = 0 → (vp_in x1 3 ∧ (WpM G 1 Y_X2_becomeLike [.ref (ad G (17 + x1.toNatClampNeg)), .ref (ad G 14)] M (RV (fun M5 => (vp_in x1 3 ∧ Q (some (.int (M5.1 (17 + x1.toNatClampNeg) 1))) M5)))))))) ∧ (¬ x1 < 3 → Q (some (.int (-1 : Int32))) M))))) : C_X10_keep G x1 M Q := by
  refine wp_enter (ls0 := [some (.ref (ad G 0)), some (.int x1)]) (by decide +kernel) (Nat.le_of_ble_eq_true rfl) rfl ?_
  refine wp_iload_n dX10_keep_0 rfl rfl ?_
  refine wp_if_lt (tgt := 9) dX10_keep_1 (by decide) (fun c1 => ?_) (fun c1 => ?_)
  · replace h := h.1 c1
    refine wp_iconst (v := (-1 : Int32)) dX10_keep_9 (by decide) ?_
    exact wp_iret (ty := .int) dX10_keep_10 rfl rfl h
  · replace h := h.2 c1
    refine wp_iload_n dX10_keep_4 rfl rfl ?_
    refine wp_iconst (v := 3) dX10_keep_5 (by decide) ?_
    refine wp_icmp_lt (tgt := 11) dX10_keep_6 (by decide) (fun c2 => ?_) (fun c2 => ?_)
    · replace h := h.1 c2
      refine wp_aload_n dX10_keep_11 rfl rfl ?_
      refine wp_getR (b := 12) dX10_keep_12 rfl rfl fb_10_3 m_2_33 ?_
      refine wp_getI dX10_keep_15 rfl fb_3_2 m_1_155 ?_
      refine wp_if_ne (tgt := 24) dX10_keep_18 (by decide) (fun c3 => ?_) (fun c3 => ?_)
      · replace h := h.2 c3
        refine wp_aload_n dX10_keep_24 rfl rfl ?_
        refine wp_getR (b := 16) dX10_keep_25 rfl rfl fb_10_4 m_2_34 ?_
        refine wp_iload_n dX10_keep_28 rfl rfl ?_
        obtain ⟨b4, h⟩ := h
        refine wp_aald (b := (17 + x1.toNatClampNeg)) (n := 3) dX10_keep_29 rfl (by decide) rfl b4 rfl ?_
        have kb4 : kd (17 + x1.toNatClampNeg) = 2 := (kda_22 (a := 16) rfl (vp_lt b4))
        refine wp_aload_n dX10_keep_30 rfl rfl ?_
        refine wp_getR (b := 12) dX10_keep_31 rfl rfl fb_10_3 m_2_33 ?_
        refine wp_getR (b := 14) dX10_keep_34 rfl rfl fb_3_1 m_1_149 ?_
        refine wp_callVV (a := (17 + x1.toNatClampNeg)) (d1 := 1) (As := [.ref (ad G 14)]) (st := []) dX10_keep_37 kb4 cm_X2_becomeLike m_2_166 (by decide) rfl (Nat.le_of_ble_eq_true rfl) rfl h ?_
        intro M5 h
        refine wp_aload_n dX10_keep_40 rfl rfl ?_
        refine wp_getR (b := 16) dX10_keep_41 rfl rfl fb_10_4 m_2_34 ?_
        refine wp_iload_n dX10_keep_44 rfl rfl ?_
        obtain ⟨b6, h⟩ := h
        refine wp_aald (b := (17 + x1.toNatClampNeg)) (n := 3) dX10_keep_45 rfl (by decide) rfl b6 rfl ?_
        have kb6 : kd (17 + x1.toNatClampNeg) = 2 := (kda_22 (a := 16) rfl (vp_lt b6))
        refine wp_getI dX10_keep_46 kb6 fb_2_1 m_1_95 ?_
        exact wp_iret (ty := .int) dX10_keep_49 rfl rfl h
      · replace h := h.1 c3
        refine wp_bipush (v := (-4 : Int32)) dX10_keep_21 (by decide) ?_
        exact wp_iret (ty := .int) dX10_keep_23 rfl rfl h
    · replace h := h.2 c2
      refine wp_iconst (v := (-1 : Int32)) dX10_keep_9 (by decide) ?_
      exact wp_iret (ty := .int) dX10_keep_10 rfl rfl h
abbrev C_X10_on (G : Glob) (x1 : Int32) (M : Mem) (Q : Option Value → Mem → Prop) : Prop := WpM G 4 Y_X10_on [.ref (ad G 0), .int x1] M Q
set_option maxRecDepth 20000 in
theorem v_X10_on {G : Glob} {x1 : Int32} {M : Mem} {Q : Option Value → Mem → Prop}  (h : ((x1 < 0 → Q (some (.int (-1 : Int32))) M) ∧ (¬ x1 < 0 → ((x1 < 3 → (vp_in x1 3 ∧ (((M.1 (17 + x1.toNatClampNeg) 1) = (-1 : Int32) → (WpM G 1 Y_X10_finds [.ref (ad G 0), .int 1] M (RI (fun r9 M8 => Q (some (.int r9)) M8)))) ∧ (¬ (M.1 (17 + x1.toNatClampNeg) 1) = (-1 : Int32) → (vp_in x1 3 ∧ (WpM G 1 Y_X2_becomeLike [.ref (ad G 14), .ref (ad G (17 + x1.toNatClampNeg))] M (RV (fun M6 => (WpM G 3 Y_X3_replay [.ref (ad G 12)] M6 (RV (fun M7 => Q (some (.int (M7.1 14 1))) M7))))))))))) ∧ (¬ x1 < 3 → Q (some (.int (-1 : Int32))) M))))) : C_X10_on G x1 M Q := by
  refine wp_enter (ls0 := [some (.ref (ad G 0)), some (.int x1)]) (by decide +kernel) (Nat.le_of_ble_eq_true rfl) rfl ?_
  refine wp_iload_n dX10_on_0 rfl rfl ?_
  refine wp_if_lt (tgt := 9) dX10_on_1 (by decide) (fun c1 => ?_) (fun c1 => ?_)
  · replace h := h.1 c1
    refine wp_iconst (v := (-1 : Int32)) dX10_on_9 (by decide) ?_
    exact wp_iret (ty := .int) dX10_on_10 rfl rfl h
  · replace h := h.2 c1
    refine wp_iload_n dX10_on_4 rfl rfl ?_
    refine wp_iconst (v := 3) dX10_on_5 (by decide) ?_
    refine wp_icmp_lt (tgt := 11) dX10_on_6 (by decide) (fun c2 => ?_) (fun c2 => ?_)
    · replace h := h.1 c2
      refine wp_aload_n dX10_on_11 rfl rfl ?_
      refine wp_getR (b := 16) dX10_on_12 rfl rfl fb_10_4 m_2_34 ?_
      refine wp_iload_n dX10_on_15 rfl rfl ?_
      obtain ⟨b3, h⟩ := h
      refine wp_aald (b := (17 + x1.toNatClampNeg)) (n := 3) dX10_on_16 rfl (by decide) rfl b3 rfl ?_
      have kb3 : kd (17 + x1.toNatClampNeg) = 2 := (kda_22 (a := 16) rfl (vp_lt b3))
      refine wp_getI dX10_on_17 kb3 fb_2_1 m_1_95 ?_
      refine wp_iconst (v := (-1 : Int32)) dX10_on_20 (by decide) ?_
      refine wp_icmp_ne (tgt := 30) dX10_on_21 (by decide) (fun c4 => ?_) (fun c4 => ?_)
      · replace h := h.2 c4
        refine wp_aload_n dX10_on_30 rfl rfl ?_
        refine wp_getR (b := 12) dX10_on_31 rfl rfl fb_10_3 m_2_33 ?_
        refine wp_getR (b := 14) dX10_on_34 rfl rfl fb_3_1 m_1_149 ?_
        refine wp_aload_n dX10_on_37 rfl rfl ?_
        refine wp_getR (b := 16) dX10_on_38 rfl rfl fb_10_4 m_2_34 ?_
        refine wp_iload_n dX10_on_41 rfl rfl ?_
        obtain ⟨b5, h⟩ := h
        refine wp_aald (b := (17 + x1.toNatClampNeg)) (n := 3) dX10_on_42 rfl (by decide) rfl b5 rfl ?_
        have kb5 : kd (17 + x1.toNatClampNeg) = 2 := (kda_22 (a := 16) rfl (vp_lt b5))
        refine wp_callVV (a := 14) (d1 := 1) (As := [.ref (ad G (17 + x1.toNatClampNeg))]) (st := []) dX10_on_43 rfl cm_X2_becomeLike m_2_166 (by decide) rfl (Nat.le_of_ble_eq_true rfl) rfl h ?_
        intro M6 h
        refine wp_aload_n dX10_on_46 rfl rfl ?_
        refine wp_getR (b := 12) dX10_on_47 rfl rfl fb_10_3 m_2_33 ?_
        refine wp_callVV (a := 12) (d1 := 3) (As := []) (st := []) dX10_on_50 rfl cm_X3_replay m_2_158 (by decide) rfl (Nat.le_of_ble_eq_true rfl) rfl h ?_
        intro M7 h
        refine wp_aload_n dX10_on_53 rfl rfl ?_
        refine wp_getR (b := 12) dX10_on_54 rfl rfl fb_10_3 m_2_33 ?_
        refine wp_getR (b := 14) dX10_on_57 rfl rfl fb_3_1 m_1_149 ?_
        refine wp_getI dX10_on_60 rfl fb_2_1 m_1_95 ?_
        exact wp_iret (ty := .int) dX10_on_63 rfl rfl h
      · replace h := h.1 c4
        refine wp_aload_n dX10_on_24 rfl rfl ?_
        refine wp_iconst (v := 1) dX10_on_25 (by decide) ?_
        refine wp_callVI (a := 0) (d1 := 1) (As := [.int 1]) (st := []) dX10_on_26 rfl cm_X10_finds m_2_174 (by decide) rfl (Nat.le_of_ble_eq_true rfl) rfl h ?_
        intro r9 M8 h
        exact wp_iret (ty := .int) dX10_on_29 rfl rfl h
    · replace h := h.2 c2
      refine wp_iconst (v := (-1 : Int32)) dX10_on_9 (by decide) ?_
      exact wp_iret (ty := .int) dX10_on_10 rfl rfl h
abbrev C_X10_good (G : Glob) (x1 : Int32) (M : Mem) (Q : Option Value → Mem → Prop) : Prop := WpM G 6 Y_X10_good [.ref (ad G 0), .int x1] M Q
set_option maxRecDepth 20000 in
theorem v_X10_good {G : Glob} {x1 : Int32} {M : Mem} {Q : Option Value → Mem → Prop}  (h : (WpM G 1 Y_X3_isSet [.ref (ad G 12), .int x1] M (RI (fun r2 M1 => ((r2 = 0 → Q (some (.int (-1 : Int32))) M1) ∧ (¬ r2 = 0 → (WpM G 5 Y_X6_weigh [.ref (ad G 23), .ref (ad G 12)] M1 (RV (fun M4 => (vp_in x1 256 ∧ (∀ M6 : Mem, M6 = upI M4 0 12 (M4.1 26 x1.toNatClampNeg) → (vp_in x1 256 ∧ Q (some (.int (M6.1 25 x1.toNatClampNeg))) M6)))))))))))) : C_X10_good G x1 M Q := by
  refine wp_enter (ls0 := [some (.ref (ad G 0)), some (.int x1)]) (by decide +kernel) (Nat.le_of_ble_eq_true rfl) rfl ?_
  refine wp_aload_n dX10_good_0 rfl rfl ?_
  refine wp_getR (b := 12) dX10_good_1 rfl rfl fb_10_3 m_2_33 ?_
  refine wp_iload_n dX10_good_4 rfl rfl ?_
  refine wp_callVI (a := 12) (d1 := 1) (As := [.int x1]) (st := []) dX10_good_5 rfl cm_X3_isSet m_3_219 (by decide) rfl (Nat.le_of_ble_eq_true rfl) rfl h ?_
  intro r2 M1 h
  refine wp_if_ne (tgt := 13) dX10_good_8 (by decide) (fun c3 => ?_) (fun c3 => ?_)
  · replace h := h.2 c3
    refine wp_aload_n dX10_good_13 rfl rfl ?_
    refine wp_getR (b := 23) dX10_good_14 rfl rfl fb_10_5 m_2_35 ?_
    refine wp_aload_n dX10_good_17 rfl rfl ?_
    refine wp_getR (b := 12) dX10_good_18 rfl rfl fb_10_3 m_2_33 ?_
    refine wp_callVV (a := 23) (d1 := 5) (As := [.ref (ad G 12)]) (st := []) dX10_good_21 rfl cm_X6_weigh m_2_182 (by decide) rfl (Nat.le_of_ble_eq_true rfl) rfl h ?_
    intro M4 h
    refine wp_aload_n dX10_good_24 rfl rfl ?_
    refine wp_aload_n dX10_good_25 rfl rfl ?_
    refine wp_getR (b := 23) dX10_good_26 rfl rfl fb_10_5 m_2_35 ?_
    refine wp_getR (b := 26) dX10_good_29 rfl rfl fb_6_2 m_1_182 ?_
    refine wp_iload_n dX10_good_32 rfl rfl ?_
    obtain ⟨b5, h⟩ := h
    refine wp_iald (n := 256) dX10_good_33 rfl rfl b5 ?_
    refine wp_putI dX10_good_34 rfl fp_10_12 m_2_42 ?_
    refine wp_topM (fun M6 hM6 => ?_)
    replace h := h M6 hM6
    refine wp_aload_n dX10_good_37 rfl rfl ?_
    refine wp_getR (b := 23) dX10_good_38 rfl rfl fb_10_5 m_2_35 ?_
    refine wp_getR (b := 25) dX10_good_41 rfl rfl fb_6_1 m_1_180 ?_
    refine wp_iload_n dX10_good_44 rfl rfl ?_
    obtain ⟨b7, h⟩ := h
    refine wp_iald (n := 256) dX10_good_45 rfl rfl b7 ?_
    exact wp_iret (ty := .int) dX10_good_46 rfl rfl h
  · replace h := h.1 c3
    refine wp_iconst (v := (-1 : Int32)) dX10_good_11 (by decide) ?_
    exact wp_iret (ty := .int) dX10_good_12 rfl rfl h
abbrev C_X10_pairs (G : Glob) (x1 : Int32) (M : Mem) (Q : Option Value → Mem → Prop) : Prop := WpM G 6 Y_X10_pairs [.ref (ad G 0), .int x1] M Q
set_option maxRecDepth 20000 in
theorem v_X10_pairs {G : Glob} {x1 : Int32} {M : Mem} {Q : Option Value → Mem → Prop}  (h : (WpM G 1 Y_X9_isNumber [.ref (ad G 1), .int x1] M (RI (fun r2 M1 => ((r2 = 0 → Q (some (.int (-1 : Int32))) M1) ∧ (¬ r2 = 0 → (((M1.1 12 2) = 0 → Q (some (.int (-4 : Int32))) M1) ∧ (¬ (M1.1 12 2) = 0 → (WpM G 5 Y_X6_weigh [.ref (ad G 23), .ref (ad G 12)] M1 (RV (fun M5 => (WpM G 5 Y_X6_partTo [.ref (ad G 23), .ref (ad G 12), .ref (ad G 1), .int x1] M5 (RV (fun M6 => (WpM G 1 Y_X3_setOf [.ref (ad G 12), .int 0] M6 (RI (fun r8 M7 => (vp_in r8 256 ∧ Q (some (.int (M7.1 25 r8.toNatClampNeg))) M7)))))))))))))))))) : C_X10_pairs G x1 M Q := by
  refine wp_enter (ls0 := [some (.ref (ad G 0)), some (.int x1)]) (by decide +kernel) (Nat.le_of_ble_eq_true rfl) rfl ?_
  refine wp_aload_n dX10_pairs_0 rfl rfl ?_
  refine wp_getR (b := 1) dX10_pairs_1 rfl rfl fb_10_0 m_2_30 ?_
  refine wp_iload_n dX10_pairs_4 rfl rfl ?_
  refine wp_callVI (a := 1) (d1 := 1) (As := [.int x1]) (st := []) dX10_pairs_5 rfl cm_X9_isNumber m_3_66 (by decide) rfl (Nat.le_of_ble_eq_true rfl) rfl h ?_
  intro r2 M1 h
  refine wp_if_ne (tgt := 13) dX10_pairs_8 (by decide) (fun c3 => ?_) (fun c3 => ?_)
  · replace h := h.2 c3
    refine wp_aload_n dX10_pairs_13 rfl rfl ?_
    refine wp_getR (b := 12) dX10_pairs_14 rfl rfl fb_10_3 m_2_33 ?_
    refine wp_getI dX10_pairs_17 rfl fb_3_2 m_1_155 ?_
    refine wp_if_ne (tgt := 26) dX10_pairs_20 (by decide) (fun c4 => ?_) (fun c4 => ?_)
    · replace h := h.2 c4
      refine wp_aload_n dX10_pairs_26 rfl rfl ?_
      refine wp_getR (b := 23) dX10_pairs_27 rfl rfl fb_10_5 m_2_35 ?_
      refine wp_aload_n dX10_pairs_30 rfl rfl ?_
      refine wp_getR (b := 12) dX10_pairs_31 rfl rfl fb_10_3 m_2_33 ?_
      refine wp_callVV (a := 23) (d1 := 5) (As := [.ref (ad G 12)]) (st := []) dX10_pairs_34 rfl cm_X6_weigh m_2_182 (by decide) rfl (Nat.le_of_ble_eq_true rfl) rfl h ?_
      intro M5 h
      refine wp_aload_n dX10_pairs_37 rfl rfl ?_
      refine wp_getR (b := 23) dX10_pairs_38 rfl rfl fb_10_5 m_2_35 ?_
      refine wp_aload_n dX10_pairs_41 rfl rfl ?_
      refine wp_getR (b := 12) dX10_pairs_42 rfl rfl fb_10_3 m_2_33 ?_
      refine wp_aload_n dX10_pairs_45 rfl rfl ?_
      refine wp_getR (b := 1) dX10_pairs_46 rfl rfl fb_10_0 m_2_30 ?_
      refine wp_iload_n dX10_pairs_49 rfl rfl ?_
      refine wp_callVV (a := 23) (d1 := 5) (As := [.ref (ad G 12), .ref (ad G 1), .int x1]) (st := []) dX10_pairs_50 rfl cm_X6_partTo m_3_227 (by decide) rfl (Nat.le_of_ble_eq_true rfl) rfl h ?_
      intro M6 h
      refine wp_aload_n dX10_pairs_53 rfl rfl ?_
      refine wp_getR (b := 23) dX10_pairs_54 rfl rfl fb_10_5 m_2_35 ?_
      refine wp_getR (b := 25) dX10_pairs_57 rfl rfl fb_6_1 m_1_180 ?_
      refine wp_aload_n dX10_pairs_60 rfl rfl ?_
      refine wp_getR (b := 12) dX10_pairs_61 rfl rfl fb_10_3 m_2_33 ?_
      refine wp_iconst (v := 0) dX10_pairs_64 (by decide) ?_
      refine wp_callVI (a := 12) (d1 := 1) (As := [.int 0]) (st := [.ref (ad G 25)]) dX10_pairs_65 rfl cm_X3_setOf m_2_237 (by decide) rfl (Nat.le_of_ble_eq_true rfl) rfl h ?_
      intro r8 M7 h
      obtain ⟨b9, h⟩ := h
      refine wp_iald (n := 256) dX10_pairs_68 rfl rfl b9 ?_
      exact wp_iret (ty := .int) dX10_pairs_69 rfl rfl h
    · replace h := h.1 c4
      refine wp_bipush (v := (-4 : Int32)) dX10_pairs_23 (by decide) ?_
      exact wp_iret (ty := .int) dX10_pairs_25 rfl rfl h
  · replace h := h.1 c3
    refine wp_iconst (v := (-1 : Int32)) dX10_pairs_11 (by decide) ?_
    exact wp_iret (ty := .int) dX10_pairs_12 rfl rfl h
abbrev C_X10_missed (G : Glob)  (M : Mem) (Q : Option Value → Mem → Prop) : Prop := WpM G 6 Y_X10_missed [.ref (ad G 0)] M Q
set_option maxRecDepth 20000 in
theorem v_X10_missed {G : Glob} {M : Mem} {Q : Option Value → Mem → Prop}  (h : (((M.1 12 2) = 0 → Q (some (.int (-4 : Int32))) M) ∧ (¬ (M.1 12 2) = 0 → (WpM G 5 Y_X6_weigh [.ref (ad G 23), .ref (ad G 12)] M (RV (fun M2 => (WpM G 1 Y_X3_setOf [.ref (ad G 12), .int 0] M2 (RI (fun r4 M3 => (WpM G 2 Y_X10_greatestChange [.ref (ad G 0), .int r4] M3 (RI (fun r6 M5 => Q (some (.int r6)) M5)))))))))))) : C_X10_missed G  M Q := by
  refine wp_enter (ls0 := [some (.ref (ad G 0))]) (by decide +kernel) (Nat.le_of_ble_eq_true rfl) rfl ?_
  refine wp_aload_n dX10_missed_0 rfl rfl ?_
  refine wp_getR (b := 12) dX10_missed_1 rfl rfl fb_10_3 m_2_33 ?_
  refine wp_getI dX10_missed_4 rfl fb_3_2 m_1_155 ?_
  refine wp_if_ne (tgt := 13) dX10_missed_7 (by decide) (fun c1 => ?_) (fun c1 => ?_)
  · replace h := h.2 c1
    refine wp_aload_n dX10_missed_13 rfl rfl ?_
    refine wp_getR (b := 23) dX10_missed_14 rfl rfl fb_10_5 m_2_35 ?_
    refine wp_aload_n dX10_missed_17 rfl rfl ?_
    refine wp_getR (b := 12) dX10_missed_18 rfl rfl fb_10_3 m_2_33 ?_
    refine wp_callVV (a := 23) (d1 := 5) (As := [.ref (ad G 12)]) (st := []) dX10_missed_21 rfl cm_X6_weigh m_2_182 (by decide) rfl (Nat.le_of_ble_eq_true rfl) rfl h ?_
    intro M2 h
    refine wp_aload_n dX10_missed_24 rfl rfl ?_
    refine wp_aload_n dX10_missed_25 rfl rfl ?_
    refine wp_getR (b := 12) dX10_missed_26 rfl rfl fb_10_3 m_2_33 ?_
    refine wp_iconst (v := 0) dX10_missed_29 (by decide) ?_
    refine wp_callVI (a := 12) (d1 := 1) (As := [.int 0]) (st := [.ref (ad G 0)]) dX10_missed_30 rfl cm_X3_setOf m_2_237 (by decide) rfl (Nat.le_of_ble_eq_true rfl) rfl h ?_
    intro r4 M3 h
    refine wp_callVI (a := 0) (d1 := 2) (As := [.int r4]) (st := []) dX10_missed_33 rfl cm_X10_greatestChange m_4_140 (by decide) rfl (Nat.le_of_ble_eq_true rfl) rfl h ?_
    intro r6 M5 h
    exact wp_iret (ty := .int) dX10_missed_36 rfl rfl h
  · replace h := h.1 c1
    refine wp_bipush (v := (-4 : Int32)) dX10_missed_10 (by decide) ?_
    exact wp_iret (ty := .int) dX10_missed_12 rfl rfl h
abbrev C_X10_wished (G : Glob)  (M : Mem) (Q : Option Value → Mem → Prop) : Prop := WpM G 6 Y_X10_wished [.ref (ad G 0)] M Q
set_option maxRecDepth 20000 in
theorem v_X10_wished {G : Glob} {M : Mem} {Q : Option Value → Mem → Prop}  (h : (((M.1 12 2) = 0 → Q (some (.int (-4 : Int32))) M) ∧ (¬ (M.1 12 2) = 0 → (WpM G 5 Y_X6_weigh [.ref (ad G 23), .ref (ad G 12)] M (RV (fun M2 => (WpM G 1 Y_X3_setOf [.ref (ad G 12), .int 1] M2 (RI (fun r4 M3 => (WpM G 1 Y_X3_setOf [.ref (ad G 12), .int 2] M3 (RI (fun r6 M5 => (WpM G 2 Y_X10_greatestChange [.ref (ad G 0), .int (r4 ||| r6)] M5 (RI (fun r8 M7 => Q (some (.int r8)) M7))))))))))))))) : C_X10_wished G  M Q := by
  refine wp_enter (ls0 := [some (.ref (ad G 0))]) (by decide +kernel) (Nat.le_of_ble_eq_true rfl) rfl ?_
  refine wp_aload_n dX10_wished_0 rfl rfl ?_
  refine wp_getR (b := 12) dX10_wished_1 rfl rfl fb_10_3 m_2_33 ?_
  refine wp_getI dX10_wished_4 rfl fb_3_2 m_1_155 ?_
  refine wp_if_ne (tgt := 13) dX10_wished_7 (by decide) (fun c1 => ?_) (fun c1 => ?_)
  · replace h := h.2 c1
    refine wp_aload_n dX10_wished_13 rfl rfl ?_
    refine wp_getR (b := 23) dX10_wished_14 rfl rfl fb_10_5 m_2_35 ?_
    refine wp_aload_n dX10_wished_17 rfl rfl ?_
    refine wp_getR (b := 12) dX10_wished_18 rfl rfl fb_10_3 m_2_33 ?_
    refine wp_callVV (a := 23) (d1 := 5) (As := [.ref (ad G 12)]) (st := []) dX10_wished_21 rfl cm_X6_weigh m_2_182 (by decide) rfl (Nat.le_of_ble_eq_true rfl) rfl h ?_
    intro M2 h
    refine wp_aload_n dX10_wished_24 rfl rfl ?_
    refine wp_aload_n dX10_wished_25 rfl rfl ?_
    refine wp_getR (b := 12) dX10_wished_26 rfl rfl fb_10_3 m_2_33 ?_
    refine wp_iconst (v := 1) dX10_wished_29 (by decide) ?_
    refine wp_callVI (a := 12) (d1 := 1) (As := [.int 1]) (st := [.ref (ad G 0)]) dX10_wished_30 rfl cm_X3_setOf m_2_237 (by decide) rfl (Nat.le_of_ble_eq_true rfl) rfl h ?_
    intro r4 M3 h
    refine wp_aload_n dX10_wished_33 rfl rfl ?_
    refine wp_getR (b := 12) dX10_wished_34 rfl rfl fb_10_3 m_2_33 ?_
    refine wp_iconst (v := 2) dX10_wished_37 (by decide) ?_
    refine wp_callVI (a := 12) (d1 := 1) (As := [.int 2]) (st := [.int r4, .ref (ad G 0)]) dX10_wished_38 rfl cm_X3_setOf m_2_237 (by decide) rfl (Nat.le_of_ble_eq_true rfl) rfl h ?_
    intro r6 M5 h
    refine wp_ior dX10_wished_41 ?_
    refine wp_callVI (a := 0) (d1 := 2) (As := [.int (r4 ||| r6)]) (st := []) dX10_wished_42 rfl cm_X10_greatestChange m_4_140 (by decide) rfl (Nat.le_of_ble_eq_true rfl) rfl h ?_
    intro r8 M7 h
    exact wp_iret (ty := .int) dX10_wished_45 rfl rfl h
  · replace h := h.1 c1
    refine wp_bipush (v := (-4 : Int32)) dX10_wished_10 (by decide) ?_
    exact wp_iret (ty := .int) dX10_wished_12 rfl rfl h
abbrev C_X10_days (G : Glob) (x1 : Int32) (x2 : Int32) (M : Mem) (Q : Option Value → Mem → Prop) : Prop := WpM G 12 Y_X10_days [.ref (ad G 0), .int x1, .int x2] M Q
set_option maxRecDepth 20000 in
theorem v_X10_days {G : Glob} {x1 : Int32} {x2 : Int32} {M : Mem} {Q : Option Value → Mem → Prop}  (h : ((x1 < 0 → Q (some (.int (-1 : Int32))) M) ∧ (¬ x1 < 0 → (((3 : Int32) < x1 → Q (some (.int (-1 : Int32))) M) ∧ (¬ (3 : Int32) < x1 → (WpM G 1 Y_X9_isNumber [.ref (ad G 1), .int x2] M (RI (fun r4 M3 => ((r4 = 0 → Q (some (.int (-1 : Int32))) M3) ∧ (¬ r4 = 0 → (((M3.1 12 2) = 0 → Q (some (.int (-4 : Int32))) M3) ∧ (¬ (M3.1 12 2) = 0 → (WpM G 11 Y_X0_plan [.ref (ad G 28), .ref (ad G 12), .int x1, .ref (ad G 1), .int x2] M3 (RI (fun r8 M7 => Q (some (.int r8)) M7))))))))))))))) : C_X10_days G x1 x2 M Q := by
  refine wp_enter (ls0 := [some (.ref (ad G 0)), some (.int x1), some (.int x2)]) (by decide +kernel) (Nat.le_of_ble_eq_true rfl) rfl ?_
  refine wp_iload_n dX10_days_0 rfl rfl ?_
  refine wp_if_lt (tgt := 20) dX10_days_1 (by decide) (fun c1 => ?_) (fun c1 => ?_)
  · replace h := h.1 c1
    refine wp_iconst (v := (-1 : Int32)) dX10_days_20 (by decide) ?_
    exact wp_iret (ty := .int) dX10_days_21 rfl rfl h
  · replace h := h.2 c1
    refine wp_iload_n dX10_days_4 rfl rfl ?_
    refine wp_iconst (v := 3) dX10_days_5 (by decide) ?_
    refine wp_icmp_gt (tgt := 20) dX10_days_6 (by decide) (fun c2 => ?_) (fun c2 => ?_)
    · replace h := h.1 c2
      refine wp_iconst (v := (-1 : Int32)) dX10_days_20 (by decide) ?_
      exact wp_iret (ty := .int) dX10_days_21 rfl rfl h
    · replace h := h.2 c2
      refine wp_aload_n dX10_days_9 rfl rfl ?_
      refine wp_getR (b := 1) dX10_days_10 rfl rfl fb_10_0 m_2_30 ?_
      refine wp_iload_n dX10_days_13 rfl rfl ?_
      refine wp_callVI (a := 1) (d1 := 1) (As := [.int x2]) (st := []) dX10_days_14 rfl cm_X9_isNumber m_3_66 (by decide) rfl (Nat.le_of_ble_eq_true rfl) rfl h ?_
      intro r4 M3 h
      refine wp_if_ne (tgt := 22) dX10_days_17 (by decide) (fun c5 => ?_) (fun c5 => ?_)
      · replace h := h.2 c5
        refine wp_aload_n dX10_days_22 rfl rfl ?_
        refine wp_getR (b := 12) dX10_days_23 rfl rfl fb_10_3 m_2_33 ?_
        refine wp_getI dX10_days_26 rfl fb_3_2 m_1_155 ?_
        refine wp_if_ne (tgt := 35) dX10_days_29 (by decide) (fun c6 => ?_) (fun c6 => ?_)
        · replace h := h.2 c6
          refine wp_aload_n dX10_days_35 rfl rfl ?_
          refine wp_getR (b := 28) dX10_days_36 rfl rfl fb_10_6 m_2_36 ?_
          refine wp_aload_n dX10_days_39 rfl rfl ?_
          refine wp_getR (b := 12) dX10_days_40 rfl rfl fb_10_3 m_2_33 ?_
          refine wp_iload_n dX10_days_43 rfl rfl ?_
          refine wp_aload_n dX10_days_44 rfl rfl ?_
          refine wp_getR (b := 1) dX10_days_45 rfl rfl fb_10_0 m_2_30 ?_
          refine wp_iload_n dX10_days_48 rfl rfl ?_
          refine wp_callVI (a := 28) (d1 := 11) (As := [.ref (ad G 12), .int x1, .ref (ad G 1), .int x2]) (st := []) dX10_days_49 rfl cm_X0_plan m_4_1 (by decide) rfl (Nat.le_of_ble_eq_true rfl) rfl h ?_
          intro r8 M7 h
          exact wp_iret (ty := .int) dX10_days_52 rfl rfl h
        · replace h := h.1 c6
          refine wp_bipush (v := (-4 : Int32)) dX10_days_32 (by decide) ?_
          exact wp_iret (ty := .int) dX10_days_34 rfl rfl h
      · replace h := h.1 c5
        refine wp_iconst (v := (-1 : Int32)) dX10_days_20 (by decide) ?_
        exact wp_iret (ty := .int) dX10_days_21 rfl rfl h
abbrev C_X10_room (G : Glob)  (M : Mem) (Q : Option Value → Mem → Prop) : Prop := WpM G 6 Y_X10_room [.ref (ad G 0)] M Q
set_option maxRecDepth 20000 in
theorem v_X10_room {G : Glob} {M : Mem} {Q : Option Value → Mem → Prop}  (h : (((M.1 12 2) = 0 → Q (some (.int (-4 : Int32))) M) ∧ (¬ (M.1 12 2) = 0 → (WpM G 5 Y_X6_weigh [.ref (ad G 23), .ref (ad G 12)] M (RV (fun M2 => (WpM G 3 Y_X6_safestSet [.ref (ad G 23), .ref (ad G 12)] M2 (RI (fun r4 M3 => (WpM G 1 Y_X6_afterWorstLoss [.ref (ad G 23), .ref (ad G 12), .int r4] M3 (RI (fun r6 M5 => (∀ M7 : Mem, M7 = upI M5 0 12 r6 → Q (some (.int r4)) M7))))))))))))) : C_X10_room G  M Q := by
  refine wp_enter (ls0 := [some (.ref (ad G 0)), none]) (by decide +kernel) (Nat.le_of_ble_eq_true rfl) rfl ?_
  refine wp_aload_n dX10_room_0 rfl rfl ?_
  refine wp_getR (b := 12) dX10_room_1 rfl rfl fb_10_3 m_2_33 ?_
  refine wp_getI dX10_room_4 rfl fb_3_2 m_1_155 ?_
  refine wp_if_ne (tgt := 13) dX10_room_7 (by decide) (fun c1 => ?_) (fun c1 => ?_)
  · replace h := h.2 c1
    refine wp_aload_n dX10_room_13 rfl rfl ?_
    refine wp_getR (b := 23) dX10_room_14 rfl rfl fb_10_5 m_2_35 ?_
    refine wp_aload_n dX10_room_17 rfl rfl ?_
    refine wp_getR (b := 12) dX10_room_18 rfl rfl fb_10_3 m_2_33 ?_
    refine wp_callVV (a := 23) (d1 := 5) (As := [.ref (ad G 12)]) (st := []) dX10_room_21 rfl cm_X6_weigh m_2_182 (by decide) rfl (Nat.le_of_ble_eq_true rfl) rfl h ?_
    intro M2 h
    refine wp_aload_n dX10_room_24 rfl rfl ?_
    refine wp_getR (b := 23) dX10_room_25 rfl rfl fb_10_5 m_2_35 ?_
    refine wp_aload_n dX10_room_28 rfl rfl ?_
    refine wp_getR (b := 12) dX10_room_29 rfl rfl fb_10_3 m_2_33 ?_
    refine wp_callVI (a := 23) (d1 := 3) (As := [.ref (ad G 12)]) (st := []) dX10_room_32 rfl cm_X6_safestSet m_2_192 (by decide) rfl (Nat.le_of_ble_eq_true rfl) rfl h ?_
    intro r4 M3 h
    refine wp_istore_n (ls' := [some (.ref (ad G 0)), some (.int r4)]) dX10_room_35 rfl (by decide) rfl rfl ?_
    refine wp_aload_n dX10_room_36 rfl rfl ?_
    refine wp_aload_n dX10_room_37 rfl rfl ?_
    refine wp_getR (b := 23) dX10_room_38 rfl rfl fb_10_5 m_2_35 ?_
    refine wp_aload_n dX10_room_41 rfl rfl ?_
    refine wp_getR (b := 12) dX10_room_42 rfl rfl fb_10_3 m_2_33 ?_
    refine wp_iload_n dX10_room_45 rfl rfl ?_
    refine wp_callVI (a := 23) (d1 := 1) (As := [.ref (ad G 12), .int r4]) (st := [.ref (ad G 0)]) dX10_room_46 rfl cm_X6_afterWorstLoss m_2_209 (by decide) rfl (Nat.le_of_ble_eq_true rfl) rfl h ?_
    intro r6 M5 h
    refine wp_putI dX10_room_49 rfl fp_10_12 m_2_42 ?_
    refine wp_topM (fun M7 hM7 => ?_)
    replace h := h M7 hM7
    refine wp_iload_n dX10_room_52 rfl rfl ?_
    exact wp_iret (ty := .int) dX10_room_53 rfl rfl h
  · replace h := h.1 c1
    refine wp_bipush (v := (-4 : Int32)) dX10_room_10 (by decide) ?_
    exact wp_iret (ty := .int) dX10_room_12 rfl rfl h
abbrev C_X10_join (G : Glob) (x1 : Int32) (x2 : Int32) (M : Mem) (Q : Option Value → Mem → Prop) : Prop := WpM G 6 Y_X10_join [.ref (ad G 0), .int x1, .int x2] M Q
set_option maxRecDepth 20000 in
theorem v_X10_join {G : Glob} {x1 : Int32} {x2 : Int32} {M : Mem} {Q : Option Value → Mem → Prop}  (h : (WpM G 1 Y_X3_isSet [.ref (ad G 12), .int x1] M (RI (fun r2 M1 => ((r2 = 0 → Q (some (.int (-1 : Int32))) M1) ∧ (¬ r2 = 0 → (WpM G 1 Y_X3_isSet [.ref (ad G 12), .int x2] M1 (RI (fun r5 M4 => ((r5 = 0 → Q (some (.int (-1 : Int32))) M4) ∧ (¬ r5 = 0 → (WpM G 5 Y_X6_weigh [.ref (ad G 23), .ref (ad G 12)] M4 (RV (fun M7 => (vp_in (x1 ||| x2) 256 ∧ (vp_in x1 256 ∧ (vp_in x2 256 ∧ Q (some (.int ((((M7.1 25 (x1 ||| x2).toNatClampNeg) - (M7.1 25 x1.toNatClampNeg)) - (M7.1 25 x2.toNatClampNeg)) + 200))) M7))))))))))))))))) : C_X10_join G x1 x2 M Q := by
  refine wp_enter (ls0 := [some (.ref (ad G 0)), some (.int x1), some (.int x2)]) (by decide +kernel) (Nat.le_of_ble_eq_true rfl) rfl ?_
  refine wp_aload_n dX10_join_0 rfl rfl ?_
  refine wp_getR (b := 12) dX10_join_1 rfl rfl fb_10_3 m_2_33 ?_
  refine wp_iload_n dX10_join_4 rfl rfl ?_
  refine wp_callVI (a := 12) (d1 := 1) (As := [.int x1]) (st := []) dX10_join_5 rfl cm_X3_isSet m_3_219 (by decide) rfl (Nat.le_of_ble_eq_true rfl) rfl h ?_
  intro r2 M1 h
  refine wp_if_eq (tgt := 22) dX10_join_8 (by decide) (fun c3 => ?_) (fun c3 => ?_)
  · replace h := h.1 c3
    refine wp_iconst (v := (-1 : Int32)) dX10_join_22 (by decide) ?_
    exact wp_iret (ty := .int) dX10_join_23 rfl rfl h
  · replace h := h.2 c3
    refine wp_aload_n dX10_join_11 rfl rfl ?_
    refine wp_getR (b := 12) dX10_join_12 rfl rfl fb_10_3 m_2_33 ?_
    refine wp_iload_n dX10_join_15 rfl rfl ?_
    refine wp_callVI (a := 12) (d1 := 1) (As := [.int x2]) (st := []) dX10_join_16 rfl cm_X3_isSet m_3_219 (by decide) rfl (Nat.le_of_ble_eq_true rfl) rfl h ?_
    intro r5 M4 h
    refine wp_if_ne (tgt := 24) dX10_join_19 (by decide) (fun c6 => ?_) (fun c6 => ?_)
    · replace h := h.2 c6
      refine wp_aload_n dX10_join_24 rfl rfl ?_
      refine wp_getR (b := 23) dX10_join_25 rfl rfl fb_10_5 m_2_35 ?_
      refine wp_aload_n dX10_join_28 rfl rfl ?_
      refine wp_getR (b := 12) dX10_join_29 rfl rfl fb_10_3 m_2_33 ?_
      refine wp_callVV (a := 23) (d1 := 5) (As := [.ref (ad G 12)]) (st := []) dX10_join_32 rfl cm_X6_weigh m_2_182 (by decide) rfl (Nat.le_of_ble_eq_true rfl) rfl h ?_
      intro M7 h
      refine wp_aload_n dX10_join_35 rfl rfl ?_
      refine wp_getR (b := 23) dX10_join_36 rfl rfl fb_10_5 m_2_35 ?_
      refine wp_getR (b := 25) dX10_join_39 rfl rfl fb_6_1 m_1_180 ?_
      refine wp_iload_n dX10_join_42 rfl rfl ?_
      refine wp_iload_n dX10_join_43 rfl rfl ?_
      refine wp_ior dX10_join_44 ?_
      obtain ⟨b8, h⟩ := h
      refine wp_iald (n := 256) dX10_join_45 rfl rfl b8 ?_
      refine wp_aload_n dX10_join_46 rfl rfl ?_
      refine wp_getR (b := 23) dX10_join_47 rfl rfl fb_10_5 m_2_35 ?_
      refine wp_getR (b := 25) dX10_join_50 rfl rfl fb_6_1 m_1_180 ?_
      refine wp_iload_n dX10_join_53 rfl rfl ?_
      obtain ⟨b9, h⟩ := h
      refine wp_iald (n := 256) dX10_join_54 rfl rfl b9 ?_
      refine wp_isub dX10_join_55 ?_
      refine wp_aload_n dX10_join_56 rfl rfl ?_
      refine wp_getR (b := 23) dX10_join_57 rfl rfl fb_10_5 m_2_35 ?_
      refine wp_getR (b := 25) dX10_join_60 rfl rfl fb_6_1 m_1_180 ?_
      refine wp_iload_n dX10_join_63 rfl rfl ?_
      obtain ⟨b10, h⟩ := h
      refine wp_iald (n := 256) dX10_join_64 rfl rfl b10 ?_
      refine wp_isub dX10_join_65 ?_
      refine wp_sipush (v := 200) dX10_join_66 (by decide) ?_
      refine wp_iadd dX10_join_69 ?_
      exact wp_iret (ty := .int) dX10_join_70 rfl rfl h
    · replace h := h.1 c6
      refine wp_iconst (v := (-1 : Int32)) dX10_join_22 (by decide) ?_
      exact wp_iret (ty := .int) dX10_join_23 rfl rfl h
abbrev C_X10_sorts (G : Glob) (x1 : Int32) (x2 : Int32) (M : Mem) (Q : Option Value → Mem → Prop) : Prop := WpM G 7 Y_X10_sorts [.ref (ad G 0), .int x1, .int x2] M Q
set_option maxRecDepth 20000 in
theorem v_X10_sorts {G : Glob} {x1 : Int32} {x2 : Int32} {M : Mem} {Q : Option Value → Mem → Prop}  (h : (WpM G 6 Y_X10_refusedGuess [.ref (ad G 0), .int x1, .int x2] M (RI (fun r2 M1 => ((r2 = 0 → (WpM G 6 Y_X5_sortsLeft [.ref (ad G 36), .ref (ad G 12), .int x1, .ref (ad G 1), .int x2] M1 (RI (fun r5 M4 => Q (some (.int r5)) M4)))) ∧ (¬ r2 = 0 → Q (some (.int r2)) M1)))))) : C_X10_sorts G x1 x2 M Q := by
  refine wp_enter (ls0 := [some (.ref (ad G 0)), some (.int x1), some (.int x2), none]) (by decide +kernel) (Nat.le_of_ble_eq_true rfl) rfl ?_
  refine wp_aload_n dX10_sorts_0 rfl rfl ?_
  refine wp_iload_n dX10_sorts_1 rfl rfl ?_
  refine wp_iload_n dX10_sorts_2 rfl rfl ?_
  refine wp_callVI (a := 0) (d1 := 6) (As := [.int x1, .int x2]) (st := []) dX10_sorts_3 rfl cm_X10_refusedGuess m_4_26 (by decide) rfl (Nat.le_of_ble_eq_true rfl) rfl h ?_
  intro r2 M1 h
  refine wp_istore_n (ls' := [some (.ref (ad G 0)), some (.int x1), some (.int x2), some (.int r2)]) dX10_sorts_6 rfl (by decide) rfl rfl ?_
  refine wp_iload_n dX10_sorts_7 rfl rfl ?_
  refine wp_if_eq (tgt := 13) dX10_sorts_8 (by decide) (fun c3 => ?_) (fun c3 => ?_)
  · replace h := h.1 c3
    refine wp_aload_n dX10_sorts_13 rfl rfl ?_
    refine wp_getR (b := 36) dX10_sorts_14 rfl rfl fb_10_7 m_2_37 ?_
    refine wp_aload_n dX10_sorts_17 rfl rfl ?_
    refine wp_getR (b := 12) dX10_sorts_18 rfl rfl fb_10_3 m_2_33 ?_
    refine wp_iload_n dX10_sorts_21 rfl rfl ?_
    refine wp_aload_n dX10_sorts_22 rfl rfl ?_
    refine wp_getR (b := 1) dX10_sorts_23 rfl rfl fb_10_0 m_2_30 ?_
    refine wp_iload_n dX10_sorts_26 rfl rfl ?_
    refine wp_callVI (a := 36) (d1 := 6) (As := [.ref (ad G 12), .int x1, .ref (ad G 1), .int x2]) (st := []) dX10_sorts_27 rfl cm_X5_sortsLeft m_4_37 (by decide) rfl (Nat.le_of_ble_eq_true rfl) rfl h ?_
    intro r5 M4 h
    exact wp_iret (ty := .int) dX10_sorts_30 rfl rfl h
  · replace h := h.2 c3
    refine wp_iload_n dX10_sorts_11 rfl rfl ?_
    exact wp_iret (ty := .int) dX10_sorts_12 rfl rfl h
abbrev C_X10_hands (G : Glob) (x1 : Int32) (x2 : Int32) (M : Mem) (Q : Option Value → Mem → Prop) : Prop := WpM G 7 Y_X10_hands [.ref (ad G 0), .int x1, .int x2] M Q
set_option maxRecDepth 20000 in
theorem v_X10_hands {G : Glob} {x1 : Int32} {x2 : Int32} {M : Mem} {Q : Option Value → Mem → Prop}  (h : (WpM G 6 Y_X10_refusedGuess [.ref (ad G 0), .int x1, .int x2] M (RI (fun r2 M1 => ((r2 = 0 → (WpM G 6 Y_X5_handsLeft [.ref (ad G 36), .ref (ad G 12), .int x1, .ref (ad G 1), .int x2] M1 (RI (fun r5 M4 => Q (some (.int r5)) M4)))) ∧ (¬ r2 = 0 → Q (some (.int r2)) M1)))))) : C_X10_hands G x1 x2 M Q := by
  refine wp_enter (ls0 := [some (.ref (ad G 0)), some (.int x1), some (.int x2), none]) (by decide +kernel) (Nat.le_of_ble_eq_true rfl) rfl ?_
  refine wp_aload_n dX10_hands_0 rfl rfl ?_
  refine wp_iload_n dX10_hands_1 rfl rfl ?_
  refine wp_iload_n dX10_hands_2 rfl rfl ?_
  refine wp_callVI (a := 0) (d1 := 6) (As := [.int x1, .int x2]) (st := []) dX10_hands_3 rfl cm_X10_refusedGuess m_4_26 (by decide) rfl (Nat.le_of_ble_eq_true rfl) rfl h ?_
  intro r2 M1 h
  refine wp_istore_n (ls' := [some (.ref (ad G 0)), some (.int x1), some (.int x2), some (.int r2)]) dX10_hands_6 rfl (by decide) rfl rfl ?_
  refine wp_iload_n dX10_hands_7 rfl rfl ?_
  refine wp_if_eq (tgt := 13) dX10_hands_8 (by decide) (fun c3 => ?_) (fun c3 => ?_)
  · replace h := h.1 c3
    refine wp_aload_n dX10_hands_13 rfl rfl ?_
    refine wp_getR (b := 36) dX10_hands_14 rfl rfl fb_10_7 m_2_37 ?_
    refine wp_aload_n dX10_hands_17 rfl rfl ?_
    refine wp_getR (b := 12) dX10_hands_18 rfl rfl fb_10_3 m_2_33 ?_
    refine wp_iload_n dX10_hands_21 rfl rfl ?_
    refine wp_aload_n dX10_hands_22 rfl rfl ?_
    refine wp_getR (b := 1) dX10_hands_23 rfl rfl fb_10_0 m_2_30 ?_
    refine wp_iload_n dX10_hands_26 rfl rfl ?_
    refine wp_callVI (a := 36) (d1 := 6) (As := [.ref (ad G 12), .int x1, .ref (ad G 1), .int x2]) (st := []) dX10_hands_27 rfl cm_X5_handsLeft m_4_49 (by decide) rfl (Nat.le_of_ble_eq_true rfl) rfl h ?_
    intro r5 M4 h
    exact wp_iret (ty := .int) dX10_hands_30 rfl rfl h
  · replace h := h.2 c3
    refine wp_iload_n dX10_hands_11 rfl rfl ?_
    exact wp_iret (ty := .int) dX10_hands_12 rfl rfl h
abbrev C_X10_kinds (G : Glob) (x1 : Int32) (x2 : Int32) (M : Mem) (Q : Option Value → Mem → Prop) : Prop := WpM G 7 Y_X10_kinds [.ref (ad G 0), .int x1, .int x2] M Q
set_option maxRecDepth 20000 in
theorem v_X10_kinds {G : Glob} {x1 : Int32} {x2 : Int32} {M : Mem} {Q : Option Value → Mem → Prop}  (h : (WpM G 6 Y_X10_refusedGuess [.ref (ad G 0), .int x1, .int x2] M (RI (fun r2 M1 => ((r2 = 0 → (WpM G 6 Y_X5_kindsLeft [.ref (ad G 36), .ref (ad G 12), .int x1, .ref (ad G 1), .int x2] M1 (RI (fun r5 M4 => Q (some (.int r5)) M4)))) ∧ (¬ r2 = 0 → Q (some (.int r2)) M1)))))) : C_X10_kinds G x1 x2 M Q := by
  refine wp_enter (ls0 := [some (.ref (ad G 0)), some (.int x1), some (.int x2), none]) (by decide +kernel) (Nat.le_of_ble_eq_true rfl) rfl ?_
  refine wp_aload_n dX10_kinds_0 rfl rfl ?_
  refine wp_iload_n dX10_kinds_1 rfl rfl ?_
  refine wp_iload_n dX10_kinds_2 rfl rfl ?_
  refine wp_callVI (a := 0) (d1 := 6) (As := [.int x1, .int x2]) (st := []) dX10_kinds_3 rfl cm_X10_refusedGuess m_4_26 (by decide) rfl (Nat.le_of_ble_eq_true rfl) rfl h ?_
  intro r2 M1 h
  refine wp_istore_n (ls' := [some (.ref (ad G 0)), some (.int x1), some (.int x2), some (.int r2)]) dX10_kinds_6 rfl (by decide) rfl rfl ?_
  refine wp_iload_n dX10_kinds_7 rfl rfl ?_
  refine wp_if_eq (tgt := 13) dX10_kinds_8 (by decide) (fun c3 => ?_) (fun c3 => ?_)
  · replace h := h.1 c3
    refine wp_aload_n dX10_kinds_13 rfl rfl ?_
    refine wp_getR (b := 36) dX10_kinds_14 rfl rfl fb_10_7 m_2_37 ?_
    refine wp_aload_n dX10_kinds_17 rfl rfl ?_
    refine wp_getR (b := 12) dX10_kinds_18 rfl rfl fb_10_3 m_2_33 ?_
    refine wp_iload_n dX10_kinds_21 rfl rfl ?_
    refine wp_aload_n dX10_kinds_22 rfl rfl ?_
    refine wp_getR (b := 1) dX10_kinds_23 rfl rfl fb_10_0 m_2_30 ?_
    refine wp_iload_n dX10_kinds_26 rfl rfl ?_
    refine wp_callVI (a := 36) (d1 := 6) (As := [.ref (ad G 12), .int x1, .ref (ad G 1), .int x2]) (st := []) dX10_kinds_27 rfl cm_X5_kindsLeft m_4_57 (by decide) rfl (Nat.le_of_ble_eq_true rfl) rfl h ?_
    intro r5 M4 h
    exact wp_iret (ty := .int) dX10_kinds_30 rfl rfl h
  · replace h := h.2 c3
    refine wp_iload_n dX10_kinds_11 rfl rfl ?_
    exact wp_iret (ty := .int) dX10_kinds_12 rfl rfl h
abbrev C_X10_test (G : Glob) (x1 : Int32) (x2 : Int32) (M : Mem) (Q : Option Value → Mem → Prop) : Prop := WpM G 7 Y_X10_test [.ref (ad G 0), .int x1, .int x2] M Q
set_option maxRecDepth 20000 in
theorem v_X10_test {G : Glob} {x1 : Int32} {x2 : Int32} {M : Mem} {Q : Option Value → Mem → Prop}  (h : (WpM G 6 Y_X10_refusedGuess [.ref (ad G 0), .int x1, .int x2] M (RI (fun r2 M1 => ((r2 = 0 → (WpM G 6 Y_X5_kindsLeft [.ref (ad G 36), .ref (ad G 12), .int x1, .ref (ad G 1), .int x2] M1 (RI (fun r5 M4 => ((r5 = 0 → Q (some (.int (-9 : Int32))) M4) ∧ (¬ r5 = 0 → (((M4.1 12 2) < 2 → Q (some (.int (-9 : Int32))) M4) ∧ (¬ (M4.1 12 2) < 2 → (WpM G 6 Y_X5_nextTry [.ref (ad G 36), .ref (ad G 12), .int x1, .int r5] M4 (RI (fun r9 M8 => (WpM G 5 Y_X5_greatestPart [.ref (ad G 36), .ref (ad G 12), .int x1, .int r5, .int r9] M8 (RI (fun r11 M10 => (∀ M12 : Mem, M12 = upI M10 0 12 r11 → Q (some (.int r9)) M12))))))))))))))) ∧ (¬ r2 = 0 → Q (some (.int r2)) M1)))))) : C_X10_test G x1 x2 M Q := by
  refine wp_enter (ls0 := [some (.ref (ad G 0)), some (.int x1), some (.int x2), none, none, none]) (by decide +kernel) (Nat.le_of_ble_eq_true rfl) rfl ?_
  refine wp_aload_n dX10_test_0 rfl rfl ?_
  refine wp_iload_n dX10_test_1 rfl rfl ?_
  refine wp_iload_n dX10_test_2 rfl rfl ?_
  refine wp_callVI (a := 0) (d1 := 6) (As := [.int x1, .int x2]) (st := []) dX10_test_3 rfl cm_X10_refusedGuess m_4_26 (by decide) rfl (Nat.le_of_ble_eq_true rfl) rfl h ?_
  intro r2 M1 h
  refine wp_istore_n (ls' := [some (.ref (ad G 0)), some (.int x1), some (.int x2), some (.int r2), none, none]) dX10_test_6 rfl (by decide) rfl rfl ?_
  refine wp_iload_n dX10_test_7 rfl rfl ?_
  refine wp_if_eq (tgt := 13) dX10_test_8 (by decide) (fun c3 => ?_) (fun c3 => ?_)
  · replace h := h.1 c3
    refine wp_aload_n dX10_test_13 rfl rfl ?_
    refine wp_getR (b := 36) dX10_test_14 rfl rfl fb_10_7 m_2_37 ?_
    refine wp_aload_n dX10_test_17 rfl rfl ?_
    refine wp_getR (b := 12) dX10_test_18 rfl rfl fb_10_3 m_2_33 ?_
    refine wp_iload_n dX10_test_21 rfl rfl ?_
    refine wp_aload_n dX10_test_22 rfl rfl ?_
    refine wp_getR (b := 1) dX10_test_23 rfl rfl fb_10_0 m_2_30 ?_
    refine wp_iload_n dX10_test_26 rfl rfl ?_
    refine wp_callVI (a := 36) (d1 := 6) (As := [.ref (ad G 12), .int x1, .ref (ad G 1), .int x2]) (st := []) dX10_test_27 rfl cm_X5_kindsLeft m_4_57 (by decide) rfl (Nat.le_of_ble_eq_true rfl) rfl h ?_
    intro r5 M4 h
    refine wp_istore (ls' := [some (.ref (ad G 0)), some (.int x1), some (.int x2), some (.int r2), some (.int r5), none]) dX10_test_30 (by decide) rfl rfl ?_
    refine wp_iload dX10_test_32 rfl ?_
    refine wp_if_eq (tgt := 48) dX10_test_34 (by decide) (fun c6 => ?_) (fun c6 => ?_)
    · replace h := h.1 c6
      refine wp_bipush (v := (-9 : Int32)) dX10_test_48 (by decide) ?_
      exact wp_iret (ty := .int) dX10_test_50 rfl rfl h
    · replace h := h.2 c6
      refine wp_aload_n dX10_test_37 rfl rfl ?_
      refine wp_getR (b := 12) dX10_test_38 rfl rfl fb_10_3 m_2_33 ?_
      refine wp_getI dX10_test_41 rfl fb_3_2 m_1_155 ?_
      refine wp_iconst (v := 2) dX10_test_44 (by decide) ?_
      refine wp_icmp_ge (tgt := 51) dX10_test_45 (by decide) (fun c7 => ?_) (fun c7 => ?_)
      · replace h := h.2 c7
        refine wp_aload_n dX10_test_51 rfl rfl ?_
        refine wp_getR (b := 36) dX10_test_52 rfl rfl fb_10_7 m_2_37 ?_
        refine wp_aload_n dX10_test_55 rfl rfl ?_
        refine wp_getR (b := 12) dX10_test_56 rfl rfl fb_10_3 m_2_33 ?_
        refine wp_iload_n dX10_test_59 rfl rfl ?_
        refine wp_iload dX10_test_60 rfl ?_
        refine wp_callVI (a := 36) (d1 := 6) (As := [.ref (ad G 12), .int x1, .int r5]) (st := []) dX10_test_62 rfl cm_X5_nextTry m_4_65 (by decide) rfl (Nat.le_of_ble_eq_true rfl) rfl h ?_
        intro r9 M8 h
        refine wp_istore (ls' := [some (.ref (ad G 0)), some (.int x1), some (.int x2), some (.int r2), some (.int r5), some (.int r9)]) dX10_test_65 (by decide) rfl rfl ?_
        refine wp_aload_n dX10_test_67 rfl rfl ?_
        refine wp_aload_n dX10_test_68 rfl rfl ?_
        refine wp_getR (b := 36) dX10_test_69 rfl rfl fb_10_7 m_2_37 ?_
        refine wp_aload_n dX10_test_72 rfl rfl ?_
        refine wp_getR (b := 12) dX10_test_73 rfl rfl fb_10_3 m_2_33 ?_
        refine wp_iload_n dX10_test_76 rfl rfl ?_
        refine wp_iload dX10_test_77 rfl ?_
        refine wp_iload dX10_test_79 rfl ?_
        refine wp_callVI (a := 36) (d1 := 5) (As := [.ref (ad G 12), .int x1, .int r5, .int r9]) (st := [.ref (ad G 0)]) dX10_test_81 rfl cm_X5_greatestPart m_4_78 (by decide) rfl (Nat.le_of_ble_eq_true rfl) rfl h ?_
        intro r11 M10 h
        refine wp_putI dX10_test_84 rfl fp_10_12 m_2_42 ?_
        refine wp_topM (fun M12 hM12 => ?_)
        replace h := h M12 hM12
        refine wp_iload dX10_test_87 rfl ?_
        exact wp_iret (ty := .int) dX10_test_89 rfl rfl h
      · replace h := h.1 c7
        refine wp_bipush (v := (-9 : Int32)) dX10_test_48 (by decide) ?_
        exact wp_iret (ty := .int) dX10_test_50 rfl rfl h
  · replace h := h.2 c3
    refine wp_iload_n dX10_test_11 rfl rfl ?_
    exact wp_iret (ty := .int) dX10_test_12 rfl rfl h
abbrev C_X10_duel (G : Glob) (x1 : Int32) (M : Mem) (Q : Option Value → Mem → Prop) : Prop := WpM G 10 Y_X10_duel [.ref (ad G 0), .int x1] M Q
set_option maxRecDepth 20000 in
theorem v_X10_duel {G : Glob} {x1 : Int32} {M : Mem} {Q : Option Value → Mem → Prop}  (h : ((x1 < 0 → Q (some (.int (-1 : Int32))) M) ∧ (¬ x1 < 0 → (((6 : Int32) < x1 → Q (some (.int (-1 : Int32))) M) ∧ (¬ (6 : Int32) < x1 → (((M.1 12 2) = 0 → Q (some (.int (-4 : Int32))) M) ∧ (¬ (M.1 12 2) = 0 → (WpM G 5 Y_X6_weigh [.ref (ad G 23), .ref (ad G 12)] M (RV (fun M4 => (WpM G 1 Y_X3_setOf [.ref (ad G 12), .int 0] M4 (RI (fun r6 M5 => (WpM G 9 Y_X8_leadAfter [.ref (ad G 39), .ref (ad G 23), .int r6, .int x1] M5 (RI (fun r8 M7 => Q (some (.int (r8 + 100))) M7)))))))))))))))) : C_X10_duel G x1 M Q := by
  refine wp_enter (ls0 := [some (.ref (ad G 0)), some (.int x1)]) (by decide +kernel) (Nat.le_of_ble_eq_true rfl) rfl ?_
  refine wp_iload_n dX10_duel_0 rfl rfl ?_
  refine wp_if_lt (tgt := 10) dX10_duel_1 (by decide) (fun c1 => ?_) (fun c1 => ?_)
  · replace h := h.1 c1
    refine wp_iconst (v := (-1 : Int32)) dX10_duel_10 (by decide) ?_
    exact wp_iret (ty := .int) dX10_duel_11 rfl rfl h
  · replace h := h.2 c1
    refine wp_iload_n dX10_duel_4 rfl rfl ?_
    refine wp_bipush (v := 6) dX10_duel_5 (by decide) ?_
    refine wp_icmp_le (tgt := 12) dX10_duel_7 (by decide) (fun c2 => ?_) (fun c2 => ?_)
    · replace h := h.2 c2
      refine wp_aload_n dX10_duel_12 rfl rfl ?_
      refine wp_getR (b := 12) dX10_duel_13 rfl rfl fb_10_3 m_2_33 ?_
      refine wp_getI dX10_duel_16 rfl fb_3_2 m_1_155 ?_
      refine wp_if_ne (tgt := 25) dX10_duel_19 (by decide) (fun c3 => ?_) (fun c3 => ?_)
      · replace h := h.2 c3
        refine wp_aload_n dX10_duel_25 rfl rfl ?_
        refine wp_getR (b := 23) dX10_duel_26 rfl rfl fb_10_5 m_2_35 ?_
        refine wp_aload_n dX10_duel_29 rfl rfl ?_
        refine wp_getR (b := 12) dX10_duel_30 rfl rfl fb_10_3 m_2_33 ?_
        refine wp_callVV (a := 23) (d1 := 5) (As := [.ref (ad G 12)]) (st := []) dX10_duel_33 rfl cm_X6_weigh m_2_182 (by decide) rfl (Nat.le_of_ble_eq_true rfl) rfl h ?_
        intro M4 h
        refine wp_aload_n dX10_duel_36 rfl rfl ?_
        refine wp_getR (b := 39) dX10_duel_37 rfl rfl fb_10_8 m_2_38 ?_
        refine wp_aload_n dX10_duel_40 rfl rfl ?_
        refine wp_getR (b := 23) dX10_duel_41 rfl rfl fb_10_5 m_2_35 ?_
        refine wp_aload_n dX10_duel_44 rfl rfl ?_
        refine wp_getR (b := 12) dX10_duel_45 rfl rfl fb_10_3 m_2_33 ?_
        refine wp_iconst (v := 0) dX10_duel_48 (by decide) ?_
        refine wp_callVI (a := 12) (d1 := 1) (As := [.int 0]) (st := [.ref (ad G 23), .ref (ad G 39)]) dX10_duel_49 rfl cm_X3_setOf m_2_237 (by decide) rfl (Nat.le_of_ble_eq_true rfl) rfl h ?_
        intro r6 M5 h
        refine wp_iload_n dX10_duel_52 rfl rfl ?_
        refine wp_callVI (a := 39) (d1 := 9) (As := [.ref (ad G 23), .int r6, .int x1]) (st := []) dX10_duel_53 rfl cm_X8_leadAfter m_4_83 (by decide) rfl (Nat.le_of_ble_eq_true rfl) rfl h ?_
        intro r8 M7 h
        refine wp_bipush (v := 100) dX10_duel_56 (by decide) ?_
        refine wp_iadd dX10_duel_58 ?_
        exact wp_iret (ty := .int) dX10_duel_59 rfl rfl h
      · replace h := h.1 c3
        refine wp_bipush (v := (-4 : Int32)) dX10_duel_22 (by decide) ?_
        exact wp_iret (ty := .int) dX10_duel_24 rfl rfl h
    · replace h := h.1 c2
      refine wp_iconst (v := (-1 : Int32)) dX10_duel_10 (by decide) ?_
      exact wp_iret (ty := .int) dX10_duel_11 rfl rfl h
abbrev C_X10_odds (G : Glob) (x1 : Int32) (x2 : Int32) (x3 : Int32) (M : Mem) (Q : Option Value → Mem → Prop) : Prop := WpM G 6 Y_X10_odds [.ref (ad G 0), .int x1, .int x2, .int x3] M Q
set_option maxRecDepth 20000 in
theorem v_X10_odds {G : Glob} {x1 : Int32} {x2 : Int32} {x3 : Int32} {M : Mem} {Q : Option Value → Mem → Prop}  (h : ((x1 < 0 → Q (some (.int (-1 : Int32))) M) ∧ (¬ x1 < 0 → (((4 : Int32) < x1 → Q (some (.int (-1 : Int32))) M) ∧ (¬ (4 : Int32) < x1 → (WpM G 1 Y_X10_isChance [.int x2] M (RI (fun r4 M3 => ((r4 = 0 → Q (some (.int (-1 : Int32))) M3) ∧ (¬ r4 = 0 → (WpM G 1 Y_X10_isChance [.int x3] M3 (RI (fun r7 M6 => ((r7 = 0 → Q (some (.int (-1 : Int32))) M6) ∧ (¬ r7 = 0 → (((M6.1 12 2) = 0 → Q (some (.int (-4 : Int32))) M6) ∧ (¬ (M6.1 12 2) = 0 → (WpM G 5 Y_X6_weigh [.ref (ad G 23), .ref (ad G 12)] M6 (RV (fun M10 => (WpM G 1 Y_X6_markSetsOf [.ref (ad G 23), .int x1] M10 (RV (fun M11 => (WpM G 3 Y_X1_reckon [.ref (ad G 42), .ref (ad G 12), .int x2, .int x3, .ref (ad G 27)] M11 (RV (fun M12 => Q (some (.int 1)) M12)))))))))))))))))))))))))) : C_X10_odds G x1 x2 x3 M Q := by
  refine wp_enter (ls0 := [some (.ref (ad G 0)), some (.int x1), some (.int x2), some (.int x3)]) (by decide +kernel) (Nat.le_of_ble_eq_true rfl) rfl ?_
  refine wp_iload_n dX10_odds_0 rfl rfl ?_
  refine wp_if_lt (tgt := 23) dX10_odds_1 (by decide) (fun c1 => ?_) (fun c1 => ?_)
  · replace h := h.1 c1
    refine wp_iconst (v := (-1 : Int32)) dX10_odds_23 (by decide) ?_
    exact wp_iret (ty := .int) dX10_odds_24 rfl rfl h
  · replace h := h.2 c1
    refine wp_iload_n dX10_odds_4 rfl rfl ?_
    refine wp_iconst (v := 4) dX10_odds_5 (by decide) ?_
    refine wp_icmp_gt (tgt := 23) dX10_odds_6 (by decide) (fun c2 => ?_) (fun c2 => ?_)
    · replace h := h.1 c2
      refine wp_iconst (v := (-1 : Int32)) dX10_odds_23 (by decide) ?_
      exact wp_iret (ty := .int) dX10_odds_24 rfl rfl h
    · replace h := h.2 c2
      refine wp_iload_n dX10_odds_9 rfl rfl ?_
      refine wp_callSI (d1 := 1) (As := [.int x2]) (st := []) dX10_odds_10 cm_X10_isChance m_4_97 (by decide) rfl (Nat.le_of_ble_eq_true rfl) rfl h ?_
      intro r4 M3 h
      refine wp_if_eq (tgt := 23) dX10_odds_13 (by decide) (fun c5 => ?_) (fun c5 => ?_)
      · replace h := h.1 c5
        refine wp_iconst (v := (-1 : Int32)) dX10_odds_23 (by decide) ?_
        exact wp_iret (ty := .int) dX10_odds_24 rfl rfl h
      · replace h := h.2 c5
        refine wp_iload_n dX10_odds_16 rfl rfl ?_
        refine wp_callSI (d1 := 1) (As := [.int x3]) (st := []) dX10_odds_17 cm_X10_isChance m_4_97 (by decide) rfl (Nat.le_of_ble_eq_true rfl) rfl h ?_
        intro r7 M6 h
        refine wp_if_ne (tgt := 25) dX10_odds_20 (by decide) (fun c8 => ?_) (fun c8 => ?_)
        · replace h := h.2 c8
          refine wp_aload_n dX10_odds_25 rfl rfl ?_
          refine wp_getR (b := 12) dX10_odds_26 rfl rfl fb_10_3 m_2_33 ?_
          refine wp_getI dX10_odds_29 rfl fb_3_2 m_1_155 ?_
          refine wp_if_ne (tgt := 38) dX10_odds_32 (by decide) (fun c9 => ?_) (fun c9 => ?_)
          · replace h := h.2 c9
            refine wp_aload_n dX10_odds_38 rfl rfl ?_
            refine wp_getR (b := 23) dX10_odds_39 rfl rfl fb_10_5 m_2_35 ?_
            refine wp_aload_n dX10_odds_42 rfl rfl ?_
            refine wp_getR (b := 12) dX10_odds_43 rfl rfl fb_10_3 m_2_33 ?_
            refine wp_callVV (a := 23) (d1 := 5) (As := [.ref (ad G 12)]) (st := []) dX10_odds_46 rfl cm_X6_weigh m_2_182 (by decide) rfl (Nat.le_of_ble_eq_true rfl) rfl h ?_
            intro M10 h
            refine wp_aload_n dX10_odds_49 rfl rfl ?_
            refine wp_getR (b := 23) dX10_odds_50 rfl rfl fb_10_5 m_2_35 ?_
            refine wp_iload_n dX10_odds_53 rfl rfl ?_
            refine wp_callVV (a := 23) (d1 := 1) (As := [.int x1]) (st := []) dX10_odds_54 rfl cm_X6_markSetsOf m_4_100 (by decide) rfl (Nat.le_of_ble_eq_true rfl) rfl h ?_
            intro M11 h
            refine wp_aload_n dX10_odds_57 rfl rfl ?_
            refine wp_getR (b := 42) dX10_odds_58 rfl rfl fb_10_9 m_2_39 ?_
            refine wp_aload_n dX10_odds_61 rfl rfl ?_
            refine wp_getR (b := 12) dX10_odds_62 rfl rfl fb_10_3 m_2_33 ?_
            refine wp_iload_n dX10_odds_65 rfl rfl ?_
            refine wp_iload_n dX10_odds_66 rfl rfl ?_
            refine wp_aload_n dX10_odds_67 rfl rfl ?_
            refine wp_getR (b := 23) dX10_odds_68 rfl rfl fb_10_5 m_2_35 ?_
            refine wp_getR (b := 27) dX10_odds_71 rfl rfl fb_6_3 m_1_184 ?_
            refine wp_callVV (a := 42) (d1 := 3) (As := [.ref (ad G 12), .int x2, .int x3, .ref (ad G 27)]) (st := []) dX10_odds_74 rfl cm_X1_reckon m_4_104 (by decide) rfl (Nat.le_of_ble_eq_true rfl) rfl h ?_
            intro M12 h
            refine wp_iconst (v := 1) dX10_odds_77 (by decide) ?_
            exact wp_iret (ty := .int) dX10_odds_78 rfl rfl h
          · replace h := h.1 c9
            refine wp_bipush (v := (-4 : Int32)) dX10_odds_35 (by decide) ?_
            exact wp_iret (ty := .int) dX10_odds_37 rfl rfl h
        · replace h := h.1 c8
          refine wp_iconst (v := (-1 : Int32)) dX10_odds_23 (by decide) ?_
          exact wp_iret (ty := .int) dX10_odds_24 rfl rfl h
abbrev C_X10_mid (G : Glob) (x1 : Int32) (x2 : Int32) (M : Mem) (Q : Option Value → Mem → Prop) : Prop := WpM G 6 Y_X10_mid [.ref (ad G 0), .int x1, .int x2] M Q
set_option maxRecDepth 20000 in
theorem v_X10_mid {G : Glob} {x1 : Int32} {x2 : Int32} {M : Mem} {Q : Option Value → Mem → Prop}  (h : (WpM G 1 Y_X10_isChance [.int x1] M (RI (fun r2 M1 => ((r2 = 0 → Q (some (.int (-1 : Int32))) M1) ∧ (¬ r2 = 0 → (WpM G 1 Y_X10_isChance [.int x2] M1 (RI (fun r5 M4 => ((r5 = 0 → Q (some (.int (-1 : Int32))) M4) ∧ (¬ r5 = 0 → (((M4.1 12 2) = 0 → Q (some (.int (-4 : Int32))) M4) ∧ (¬ (M4.1 12 2) = 0 → (WpM G 5 Y_X6_weigh [.ref (ad G 23), .ref (ad G 12)] M4 (RV (fun M8 => (WpM G 3 Y_X1_reckon [.ref (ad G 42), .ref (ad G 12), .int x1, .int x2, .ref (ad G 25)] M8 (RV (fun M9 => Q (some (.int 1)) M9))))))))))))))))))) : C_X10_mid G x1 x2 M Q := by
  refine wp_enter (ls0 := [some (.ref (ad G 0)), some (.int x1), some (.int x2)]) (by decide +kernel) (Nat.le_of_ble_eq_true rfl) rfl ?_
  refine wp_iload_n dX10_mid_0 rfl rfl ?_
  refine wp_callSI (d1 := 1) (As := [.int x1]) (st := []) dX10_mid_1 cm_X10_isChance m_4_97 (by decide) rfl (Nat.le_of_ble_eq_true rfl) rfl h ?_
  intro r2 M1 h
  refine wp_if_eq (tgt := 14) dX10_mid_4 (by decide) (fun c3 => ?_) (fun c3 => ?_)
  · replace h := h.1 c3
    refine wp_iconst (v := (-1 : Int32)) dX10_mid_14 (by decide) ?_
    exact wp_iret (ty := .int) dX10_mid_15 rfl rfl h
  · replace h := h.2 c3
    refine wp_iload_n dX10_mid_7 rfl rfl ?_
    refine wp_callSI (d1 := 1) (As := [.int x2]) (st := []) dX10_mid_8 cm_X10_isChance m_4_97 (by decide) rfl (Nat.le_of_ble_eq_true rfl) rfl h ?_
    intro r5 M4 h
    refine wp_if_ne (tgt := 16) dX10_mid_11 (by decide) (fun c6 => ?_) (fun c6 => ?_)
    · replace h := h.2 c6
      refine wp_aload_n dX10_mid_16 rfl rfl ?_
      refine wp_getR (b := 12) dX10_mid_17 rfl rfl fb_10_3 m_2_33 ?_
      refine wp_getI dX10_mid_20 rfl fb_3_2 m_1_155 ?_
      refine wp_if_ne (tgt := 29) dX10_mid_23 (by decide) (fun c7 => ?_) (fun c7 => ?_)
      · replace h := h.2 c7
        refine wp_aload_n dX10_mid_29 rfl rfl ?_
        refine wp_getR (b := 23) dX10_mid_30 rfl rfl fb_10_5 m_2_35 ?_
        refine wp_aload_n dX10_mid_33 rfl rfl ?_
        refine wp_getR (b := 12) dX10_mid_34 rfl rfl fb_10_3 m_2_33 ?_
        refine wp_callVV (a := 23) (d1 := 5) (As := [.ref (ad G 12)]) (st := []) dX10_mid_37 rfl cm_X6_weigh m_2_182 (by decide) rfl (Nat.le_of_ble_eq_true rfl) rfl h ?_
        intro M8 h
        refine wp_aload_n dX10_mid_40 rfl rfl ?_
        refine wp_getR (b := 42) dX10_mid_41 rfl rfl fb_10_9 m_2_39 ?_
        refine wp_aload_n dX10_mid_44 rfl rfl ?_
        refine wp_getR (b := 12) dX10_mid_45 rfl rfl fb_10_3 m_2_33 ?_
        refine wp_iload_n dX10_mid_48 rfl rfl ?_
        refine wp_iload_n dX10_mid_49 rfl rfl ?_
        refine wp_aload_n dX10_mid_50 rfl rfl ?_
        refine wp_getR (b := 23) dX10_mid_51 rfl rfl fb_10_5 m_2_35 ?_
        refine wp_getR (b := 25) dX10_mid_54 rfl rfl fb_6_1 m_1_180 ?_
        refine wp_callVV (a := 42) (d1 := 3) (As := [.ref (ad G 12), .int x1, .int x2, .ref (ad G 25)]) (st := []) dX10_mid_57 rfl cm_X1_reckon m_4_104 (by decide) rfl (Nat.le_of_ble_eq_true rfl) rfl h ?_
        intro M9 h
        refine wp_iconst (v := 1) dX10_mid_60 (by decide) ?_
        exact wp_iret (ty := .int) dX10_mid_61 rfl rfl h
      · replace h := h.1 c7
        refine wp_bipush (v := (-4 : Int32)) dX10_mid_26 (by decide) ?_
        exact wp_iret (ty := .int) dX10_mid_28 rfl rfl h
    · replace h := h.1 c6
      refine wp_iconst (v := (-1 : Int32)) dX10_mid_14 (by decide) ?_
      exact wp_iret (ty := .int) dX10_mid_15 rfl rfl h
abbrev P_X10_lots_63 (G : Glob) (x1 : Int32) (x3 : Int64) (x5 : Int32) (M : Mem) (Q : Option Value → Mem → Prop) : Prop := Wp G 6 Y_X10_lots 63 [some (.ref (ad G 0)), some (.int x1), none, some (.long x3), none, some (.int x5)] [] M Q
set_option maxRecDepth 20000 in
theorem v_X10_lots_63 {G : Glob} {x1 : Int32} {x3 : Int64} {x5 : Int32} {M : Mem} {Q : Option Value → Mem → Prop}  (h : ((x5 < x1 → (∀ y4 : Int64, y4 = ((x3 * 48271) - (x3 * 48271) / 2147483647 * 2147483647) → (WpM G 5 Y_X3_actByLot [.ref (ad G 12), .long (y4 / 8)] M (RV (fun M5 => P_X10_lots_63 G x1 y4 (x5 + 1) M5 Q))))) ∧ (¬ x5 < x1 → (WpM G 2 Y_X3_howManyInside [.ref (ad G 12)] M (RI (fun r3 M2 => Q (some (.int r3)) M2)))))) : P_X10_lots_63 G x1 x3 x5 M Q := by
  refine wp_iload dX10_lots_63 rfl ?_
  refine wp_iload_n dX10_lots_65 rfl rfl ?_
  refine wp_icmp_ge (tgt := 97) dX10_lots_66 (by decide) (fun c1 => ?_) (fun c1 => ?_)
  · replace h := h.2 c1
    refine wp_aload_n dX10_lots_97 rfl rfl ?_
    refine wp_getR (b := 12) dX10_lots_98 rfl rfl fb_10_3 m_2_33 ?_
    refine wp_callVI (a := 12) (d1 := 2) (As := []) (st := []) dX10_lots_101 rfl cm_X3_howManyInside m_2_136 (by decide) rfl (Nat.le_of_ble_eq_true rfl) rfl h ?_
    intro r3 M2 h
    exact wp_iret (ty := .int) dX10_lots_104 rfl rfl h
  · replace h := h.1 c1
    refine wp_lload_n dX10_lots_69 rfl rfl ?_
    refine wp_ldc2 (v := 48271) m_2_215 dX10_lots_70 ?_
    refine wp_lmul dX10_lots_73 ?_
    refine wp_ldc2 (v := 2147483647) m_2_214 dX10_lots_74 ?_
    refine wp_lrem dX10_lots_77 (by decide) ?_
    refine wp_topJ (fun y4 hy4 => ?_)
    replace h := h y4 hy4
    refine wp_lstore_n (ls' := [some (.ref (ad G 0)), some (.int x1), none, some (.long y4), none, some (.int x5)]) dX10_lots_78 rfl (by decide) rfl rfl ?_
    refine wp_aload_n dX10_lots_79 rfl rfl ?_
    refine wp_getR (b := 12) dX10_lots_80 rfl rfl fb_10_3 m_2_33 ?_
    refine wp_lload_n dX10_lots_83 rfl rfl ?_
    refine wp_ldc2 (v := 8) m_2_216 dX10_lots_84 ?_
    refine wp_ldiv dX10_lots_87 (by decide) ?_
    refine wp_callVV (a := 12) (d1 := 5) (As := [.long (y4 / 8)]) (st := []) dX10_lots_88 rfl cm_X3_actByLot m_2_217 (by decide) rfl (Nat.le_of_ble_eq_true rfl) rfl h ?_
    intro M5 h
    refine wp_iinc (v := (x5 + 1)) (ls' := [some (.ref (ad G 0)), some (.int x1), none, some (.long y4), none, some (.int (x5 + 1))]) dX10_lots_91 rfl rfl (by decide) rfl rfl ?_
    refine wp_goto (tgt := 63) dX10_lots_94 (by decide) ?_
    exact h
abbrev C_X10_lots (G : Glob) (x1 : Int32) (x2 : Int32) (M : Mem) (Q : Option Value → Mem → Prop) : Prop := WpM G 6 Y_X10_lots [.ref (ad G 0), .int x1, .int x2] M Q
set_option maxRecDepth 20000 in
theorem v_X10_lots {G : Glob} {x1 : Int32} {x2 : Int32} {M : Mem} {Q : Option Value → Mem → Prop}  (h : ((x1 < 1 → Q (some (.int (-1 : Int32))) M) ∧ (¬ x1 < 1 → (((20 : Int32) < x1 → Q (some (.int (-1 : Int32))) M) ∧ (¬ (20 : Int32) < x1 → ((x2 < 1 → Q (some (.int (-1 : Int32))) M) ∧ (¬ x2 < 1 → ((lg_cmp x2.toInt64 2147483647 < 0 → (((M.1 12 2) = 0 → Q (some (.int (-4 : Int32))) M) ∧ (¬ (M.1 12 2) = 0 → (WpM G 1 Y_X2_roomLeft [.ref (ad G 14)] M (RI (fun r7 M6 => ((r7 < x1 → Q (some (.int (-2 : Int32))) M6) ∧ (¬ r7 < x1 → P_X10_lots_63 G x1 x2.toInt64 0 M6 Q)))))))) ∧ (¬ lg_cmp x2.toInt64 2147483647 < 0 → Q (some (.int (-1 : Int32))) M))))))))) : C_X10_lots G x1 x2 M Q := by
  refine wp_enter (ls0 := [some (.ref (ad G 0)), some (.int x1), some (.int x2), none, none, none]) (by decide +kernel) (Nat.le_of_ble_eq_true rfl) rfl ?_
  refine wp_iload_n dX10_lots_0 rfl rfl ?_
  refine wp_iconst (v := 1) dX10_lots_1 (by decide) ?_
  refine wp_icmp_lt (tgt := 25) dX10_lots_2 (by decide) (fun c1 => ?_) (fun c1 => ?_)
  · replace h := h.1 c1
    refine wp_iconst (v := (-1 : Int32)) dX10_lots_25 (by decide) ?_
    exact wp_iret (ty := .int) dX10_lots_26 rfl rfl h
  · replace h := h.2 c1
    refine wp_iload_n dX10_lots_5 rfl rfl ?_
    refine wp_bipush (v := 20) dX10_lots_6 (by decide) ?_
    refine wp_icmp_gt (tgt := 25) dX10_lots_8 (by decide) (fun c2 => ?_) (fun c2 => ?_)
    · replace h := h.1 c2
      refine wp_iconst (v := (-1 : Int32)) dX10_lots_25 (by decide) ?_
      exact wp_iret (ty := .int) dX10_lots_26 rfl rfl h
    · replace h := h.2 c2
      refine wp_iload_n dX10_lots_11 rfl rfl ?_
      refine wp_iconst (v := 1) dX10_lots_12 (by decide) ?_
      refine wp_icmp_lt (tgt := 25) dX10_lots_13 (by decide) (fun c3 => ?_) (fun c3 => ?_)
      · replace h := h.1 c3
        refine wp_iconst (v := (-1 : Int32)) dX10_lots_25 (by decide) ?_
        exact wp_iret (ty := .int) dX10_lots_26 rfl rfl h
      · replace h := h.2 c3
        refine wp_iload_n dX10_lots_16 rfl rfl ?_
        refine wp_i2l dX10_lots_17 ?_
        refine wp_ldc2 (v := 2147483647) m_2_214 dX10_lots_18 ?_
        refine wp_lcmp dX10_lots_21 ?_
        refine wp_if_lt (tgt := 27) dX10_lots_22 (by decide) (fun c4 => ?_) (fun c4 => ?_)
        · replace h := h.1 c4
          refine wp_aload_n dX10_lots_27 rfl rfl ?_
          refine wp_getR (b := 12) dX10_lots_28 rfl rfl fb_10_3 m_2_33 ?_
          refine wp_getI dX10_lots_31 rfl fb_3_2 m_1_155 ?_
          refine wp_if_ne (tgt := 40) dX10_lots_34 (by decide) (fun c5 => ?_) (fun c5 => ?_)
          · replace h := h.2 c5
            refine wp_aload_n dX10_lots_40 rfl rfl ?_
            refine wp_getR (b := 12) dX10_lots_41 rfl rfl fb_10_3 m_2_33 ?_
            refine wp_getR (b := 14) dX10_lots_44 rfl rfl fb_3_1 m_1_149 ?_
            refine wp_callVI (a := 14) (d1 := 1) (As := []) (st := []) dX10_lots_47 rfl cm_X2_roomLeft m_2_111 (by decide) rfl (Nat.le_of_ble_eq_true rfl) rfl h ?_
            intro r7 M6 h
            refine wp_iload_n dX10_lots_50 rfl rfl ?_
            refine wp_icmp_ge (tgt := 57) dX10_lots_51 (by decide) (fun c8 => ?_) (fun c8 => ?_)
            · replace h := h.2 c8
              refine wp_iload_n dX10_lots_57 rfl rfl ?_
              refine wp_i2l dX10_lots_58 ?_
              refine wp_lstore_n (ls' := [some (.ref (ad G 0)), some (.int x1), some (.int x2), some (.long x2.toInt64), none, none]) dX10_lots_59 rfl (by decide) rfl rfl ?_
              refine wp_iconst (v := 0) dX10_lots_60 (by decide) ?_
              refine wp_istore (ls' := [some (.ref (ad G 0)), some (.int x1), some (.int x2), some (.long x2.toInt64), none, some (.int 0)]) dX10_lots_61 (by decide) rfl rfl ?_
              exact wp_mask [true, true, false, true, false, true] rfl h
            · replace h := h.1 c8
              refine wp_bipush (v := (-2 : Int32)) dX10_lots_54 (by decide) ?_
              exact wp_iret (ty := .int) dX10_lots_56 rfl rfl h
          · replace h := h.1 c5
            refine wp_bipush (v := (-4 : Int32)) dX10_lots_37 (by decide) ?_
            exact wp_iret (ty := .int) dX10_lots_39 rfl rfl h
        · replace h := h.2 c4
          refine wp_iconst (v := (-1 : Int32)) dX10_lots_25 (by decide) ?_
          exact wp_iret (ty := .int) dX10_lots_26 rfl rfl h
abbrev C_X10_asked (G : Glob)  (M : Mem) (Q : Option Value → Mem → Prop) : Prop := WpM G 1 Y_X10_asked [.ref (ad G 0)] M Q
set_option maxRecDepth 20000 in
theorem v_X10_asked {G : Glob} {M : Mem} {Q : Option Value → Mem → Prop}  (h : Q (some (.int (M.1 0 12))) M) : C_X10_asked G  M Q := by
  refine wp_enter (ls0 := [some (.ref (ad G 0))]) (by decide +kernel) (Nat.le_of_ble_eq_true rfl) rfl ?_
  refine wp_aload_n dX10_asked_0 rfl rfl ?_
  refine wp_getI dX10_asked_1 rfl fb_10_12 m_2_42 ?_
  exact wp_iret (ty := .int) dX10_asked_4 rfl rfl h
abbrev C_X10_upper (G : Glob)  (M : Mem) (Q : Option Value → Mem → Prop) : Prop := WpM G 1 Y_X10_upper [.ref (ad G 0)] M Q
set_option maxRecDepth 20000 in
theorem v_X10_upper {G : Glob} {M : Mem} {Q : Option Value → Mem → Prop}  (h : Q (some (.long (M.2 42 1))) M) : C_X10_upper G  M Q := by
  refine wp_enter (ls0 := [some (.ref (ad G 0))]) (by decide +kernel) (Nat.le_of_ble_eq_true rfl) rfl ?_
  refine wp_aload_n dX10_upper_0 rfl rfl ?_
  refine wp_getR (b := 42) dX10_upper_1 rfl rfl fb_10_9 m_2_39 ?_
  refine wp_getL dX10_upper_4 rfl fb_1_1 m_2_20 ?_
  exact wp_lret dX10_upper_7 rfl h
abbrev C_X10_lower (G : Glob)  (M : Mem) (Q : Option Value → Mem → Prop) : Prop := WpM G 1 Y_X10_lower [.ref (ad G 0)] M Q
set_option maxRecDepth 20000 in
theorem v_X10_lower {G : Glob} {M : Mem} {Q : Option Value → Mem → Prop}  (h : Q (some (.long (M.2 42 2))) M) : C_X10_lower G  M Q := by
  refine wp_enter (ls0 := [some (.ref (ad G 0))]) (by decide +kernel) (Nat.le_of_ble_eq_true rfl) rfl ?_
  refine wp_aload_n dX10_lower_0 rfl rfl ?_
  refine wp_getR (b := 42) dX10_lower_1 rfl rfl fb_10_9 m_2_39 ?_
  refine wp_getL dX10_lower_4 rfl fb_1_2 m_2_22 ?_
  exact wp_lret dX10_lower_7 rfl h
abbrev C_X10_count (G : Glob) (x1 : Int32) (M : Mem) (Q : Option Value → Mem → Prop) : Prop := WpM G 5 Y_X10_count [.ref (ad G 0), .int x1] M Q
set_option maxRecDepth 20000 in
theorem v_X10_count {G : Glob} {x1 : Int32} {M : Mem} {Q : Option Value → Mem → Prop}  (h : ((x1 = 0 → Q (some (.int (M.1 12 2))) M) ∧ (¬ x1 = 0 → ((x1 = 1 → Q (some (.int (M.1 12 3))) M) ∧ (¬ x1 = 1 → ((x1 = 2 → Q (some (.int (M.1 14 1))) M) ∧ (¬ x1 = 2 → ((x1 = 3 → (WpM G 1 Y_X3_setOf [.ref (ad G 12), .int 0] M (RI (fun r2 M1 => Q (some (.int r2)) M1)))) ∧ (¬ x1 = 3 → ((x1 = 4 → (WpM G 1 Y_X3_setOf [.ref (ad G 12), .int 1] M (RI (fun r4 M3 => Q (some (.int r4)) M3)))) ∧ (¬ x1 = 4 → ((x1 = 5 → (WpM G 1 Y_X3_setOf [.ref (ad G 12), .int 2] M (RI (fun r6 M5 => Q (some (.int r6)) M5)))) ∧ (¬ x1 = 5 → ((x1 = 6 → (WpM G 1 Y_X3_allWear [.ref (ad G 12)] M (RI (fun r8 M7 => Q (some (.int r8)) M7)))) ∧ (¬ x1 = 6 → ((x1 = 7 → (WpM G 2 Y_X3_howManyOf [.ref (ad G 12), .int 1] M (RI (fun r10 M9 => Q (some (.int r10)) M9)))) ∧ (¬ x1 = 7 → ((x1 = 8 → (WpM G 4 Y_X9_howManyThere [.ref (ad G 1)] M (RI (fun r12 M11 => Q (some (.int r12)) M11)))) ∧ (¬ x1 = 8 → ((x1 = 9 → (WpM G 4 Y_X9_howManyThere [.ref (ad G 4)] M (RI (fun r14 M13 => Q (some (.int r14)) M13)))) ∧ (¬ x1 = 9 → ((x1 = 10 → (WpM G 1 Y_X10_howManyKept [.ref (ad G 0)] M (RI (fun r16 M15 => Q (some (.int r16)) M15)))) ∧ (¬ x1 = 10 → Q (some (.int (-1 : Int32))) M))))))))))))))))))))))) : C_X10_count G x1 M Q := by
  refine wp_enter (ls0 := [some (.ref (ad G 0)), some (.int x1)]) (by decide +kernel) (Nat.le_of_ble_eq_true rfl) rfl ?_
  refine wp_iload_n dX10_count_0 rfl rfl ?_
  rcases Decidable.em (x1 = 0) with n0 | n0
  · replace h := h.1 n0
    refine wp_tswI (tgt := 60) (v := 0) dX10_count_1 n0 (by decide) (by decide) rfl (by decide) ?_
    refine wp_aload_n dX10_count_60 rfl rfl ?_
    refine wp_getR (b := 12) dX10_count_61 rfl rfl fb_10_3 m_2_33 ?_
    refine wp_getI dX10_count_64 rfl fb_3_2 m_1_155 ?_
    exact wp_iret (ty := .int) dX10_count_67 rfl rfl h
  · replace h := h.2 n0
    rcases Decidable.em (x1 = 1) with n1 | n1
    · replace h := h.1 n1
      refine wp_tswI (tgt := 68) (v := 1) dX10_count_1 n1 (by decide) (by decide) rfl (by decide) ?_
      refine wp_aload_n dX10_count_68 rfl rfl ?_
      refine wp_getR (b := 12) dX10_count_69 rfl rfl fb_10_3 m_2_33 ?_
      refine wp_getI dX10_count_72 rfl fb_3_3 m_1_158 ?_
      exact wp_iret (ty := .int) dX10_count_75 rfl rfl h
    · replace h := h.2 n1
      rcases Decidable.em (x1 = 2) with n2 | n2
      · replace h := h.1 n2
        refine wp_tswI (tgt := 76) (v := 2) dX10_count_1 n2 (by decide) (by decide) rfl (by decide) ?_
        refine wp_aload_n dX10_count_76 rfl rfl ?_
        refine wp_getR (b := 12) dX10_count_77 rfl rfl fb_10_3 m_2_33 ?_
        refine wp_getR (b := 14) dX10_count_80 rfl rfl fb_3_1 m_1_149 ?_
        refine wp_getI dX10_count_83 rfl fb_2_1 m_1_95 ?_
        exact wp_iret (ty := .int) dX10_count_86 rfl rfl h
      · replace h := h.2 n2
        rcases Decidable.em (x1 = 3) with n3 | n3
        · replace h := h.1 n3
          refine wp_tswI (tgt := 87) (v := 3) dX10_count_1 n3 (by decide) (by decide) rfl (by decide) ?_
          refine wp_aload_n dX10_count_87 rfl rfl ?_
          refine wp_getR (b := 12) dX10_count_88 rfl rfl fb_10_3 m_2_33 ?_
          refine wp_iconst (v := 0) dX10_count_91 (by decide) ?_
          refine wp_callVI (a := 12) (d1 := 1) (As := [.int 0]) (st := []) dX10_count_92 rfl cm_X3_setOf m_2_237 (by decide) rfl (Nat.le_of_ble_eq_true rfl) rfl h ?_
          intro r2 M1 h
          exact wp_iret (ty := .int) dX10_count_95 rfl rfl h
        · replace h := h.2 n3
          rcases Decidable.em (x1 = 4) with n4 | n4
          · replace h := h.1 n4
            refine wp_tswI (tgt := 96) (v := 4) dX10_count_1 n4 (by decide) (by decide) rfl (by decide) ?_
            refine wp_aload_n dX10_count_96 rfl rfl ?_
            refine wp_getR (b := 12) dX10_count_97 rfl rfl fb_10_3 m_2_33 ?_
            refine wp_iconst (v := 1) dX10_count_100 (by decide) ?_
            refine wp_callVI (a := 12) (d1 := 1) (As := [.int 1]) (st := []) dX10_count_101 rfl cm_X3_setOf m_2_237 (by decide) rfl (Nat.le_of_ble_eq_true rfl) rfl h ?_
            intro r4 M3 h
            exact wp_iret (ty := .int) dX10_count_104 rfl rfl h
          · replace h := h.2 n4
            rcases Decidable.em (x1 = 5) with n5 | n5
            · replace h := h.1 n5
              refine wp_tswI (tgt := 105) (v := 5) dX10_count_1 n5 (by decide) (by decide) rfl (by decide) ?_
              refine wp_aload_n dX10_count_105 rfl rfl ?_
              refine wp_getR (b := 12) dX10_count_106 rfl rfl fb_10_3 m_2_33 ?_
              refine wp_iconst (v := 2) dX10_count_109 (by decide) ?_
              refine wp_callVI (a := 12) (d1 := 1) (As := [.int 2]) (st := []) dX10_count_110 rfl cm_X3_setOf m_2_237 (by decide) rfl (Nat.le_of_ble_eq_true rfl) rfl h ?_
              intro r6 M5 h
              exact wp_iret (ty := .int) dX10_count_113 rfl rfl h
            · replace h := h.2 n5
              rcases Decidable.em (x1 = 6) with n6 | n6
              · replace h := h.1 n6
                refine wp_tswI (tgt := 114) (v := 6) dX10_count_1 n6 (by decide) (by decide) rfl (by decide) ?_
                refine wp_aload_n dX10_count_114 rfl rfl ?_
                refine wp_getR (b := 12) dX10_count_115 rfl rfl fb_10_3 m_2_33 ?_
                refine wp_callVI (a := 12) (d1 := 1) (As := []) (st := []) dX10_count_118 rfl cm_X3_allWear m_2_238 (by decide) rfl (Nat.le_of_ble_eq_true rfl) rfl h ?_
                intro r8 M7 h
                exact wp_iret (ty := .int) dX10_count_121 rfl rfl h
              · replace h := h.2 n6
                rcases Decidable.em (x1 = 7) with n7 | n7
                · replace h := h.1 n7
                  refine wp_tswI (tgt := 122) (v := 7) dX10_count_1 n7 (by decide) (by decide) rfl (by decide) ?_
                  refine wp_aload_n dX10_count_122 rfl rfl ?_
                  refine wp_getR (b := 12) dX10_count_123 rfl rfl fb_10_3 m_2_33 ?_
                  refine wp_iconst (v := 1) dX10_count_126 (by decide) ?_
                  refine wp_callVI (a := 12) (d1 := 2) (As := [.int 1]) (st := []) dX10_count_127 rfl cm_X3_howManyOf m_3_2 (by decide) rfl (Nat.le_of_ble_eq_true rfl) rfl h ?_
                  intro r10 M9 h
                  exact wp_iret (ty := .int) dX10_count_130 rfl rfl h
                · replace h := h.2 n7
                  rcases Decidable.em (x1 = 8) with n8 | n8
                  · replace h := h.1 n8
                    refine wp_tswI (tgt := 131) (v := 8) dX10_count_1 n8 (by decide) (by decide) rfl (by decide) ?_
                    refine wp_aload_n dX10_count_131 rfl rfl ?_
                    refine wp_getR (b := 1) dX10_count_132 rfl rfl fb_10_0 m_2_30 ?_
                    refine wp_callVI (a := 1) (d1 := 4) (As := []) (st := []) dX10_count_135 rfl cm_X9_howManyThere m_3_7 (by decide) rfl (Nat.le_of_ble_eq_true rfl) rfl h ?_
                    intro r12 M11 h
                    exact wp_iret (ty := .int) dX10_count_138 rfl rfl h
                  · replace h := h.2 n8
                    rcases Decidable.em (x1 = 9) with n9 | n9
                    · replace h := h.1 n9
                      refine wp_tswI (tgt := 139) (v := 9) dX10_count_1 n9 (by decide) (by decide) rfl (by decide) ?_
                      refine wp_aload_n dX10_count_139 rfl rfl ?_
                      refine wp_getR (b := 4) dX10_count_140 rfl rfl fb_10_1 m_2_31 ?_
                      refine wp_callVI (a := 4) (d1 := 4) (As := []) (st := []) dX10_count_143 rfl cm_X9_howManyThere m_3_7 (by decide) rfl (Nat.le_of_ble_eq_true rfl) rfl h ?_
                      intro r14 M13 h
                      exact wp_iret (ty := .int) dX10_count_146 rfl rfl h
                    · replace h := h.2 n9
                      rcases Decidable.em (x1 = 10) with n10 | n10
                      · replace h := h.1 n10
                        refine wp_tswI (tgt := 147) (v := 10) dX10_count_1 n10 (by decide) (by decide) rfl (by decide) ?_
                        refine wp_aload_n dX10_count_147 rfl rfl ?_
                        refine wp_callVI (a := 0) (d1 := 1) (As := []) (st := []) dX10_count_148 rfl cm_X10_howManyKept m_3_23 (by decide) rfl (Nat.le_of_ble_eq_true rfl) rfl h ?_
                        intro r16 M15 h
                        exact wp_iret (ty := .int) dX10_count_151 rfl rfl h
                      · replace h := h.2 n10
                        refine wp_tswD (tgt := 152) dX10_count_1 (by have e0 : (x1 : Int32).toInt ≠ 0 := fun e => n0 (Int32.toInt_inj.mp e); have e1 : (x1 : Int32).toInt ≠ 1 := fun e => n1 (Int32.toInt_inj.mp e); have e2 : (x1 : Int32).toInt ≠ 2 := fun e => n2 (Int32.toInt_inj.mp e); have e3 : (x1 : Int32).toInt ≠ 3 := fun e => n3 (Int32.toInt_inj.mp e); have e4 : (x1 : Int32).toInt ≠ 4 := fun e => n4 (Int32.toInt_inj.mp e); have e5 : (x1 : Int32).toInt ≠ 5 := fun e => n5 (Int32.toInt_inj.mp e); have e6 : (x1 : Int32).toInt ≠ 6 := fun e => n6 (Int32.toInt_inj.mp e); have e7 : (x1 : Int32).toInt ≠ 7 := fun e => n7 (Int32.toInt_inj.mp e); have e8 : (x1 : Int32).toInt ≠ 8 := fun e => n8 (Int32.toInt_inj.mp e); have e9 : (x1 : Int32).toInt ≠ 9 := fun e => n9 (Int32.toInt_inj.mp e); have e10 : (x1 : Int32).toInt ≠ 10 := fun e => n10 (Int32.toInt_inj.mp e); omega) (by decide) ?_
                        refine wp_iconst (v := (-1 : Int32)) dX10_count_152 (by decide) ?_
                        exact wp_iret (ty := .int) dX10_count_153 rfl rfl h
abbrev C_X10_finding (G : Glob)  (M : Mem) (Q : Option Value → Mem → Prop) : Prop := WpM G 1 Y_X10_finding [.ref (ad G 0)] M Q
set_option maxRecDepth 20000 in
theorem v_X10_finding {G : Glob} {M : Mem} {Q : Option Value → Mem → Prop}  (h : Q (some (.int (M.1 0 11))) M) : C_X10_finding G  M Q := by
  refine wp_enter (ls0 := [some (.ref (ad G 0))]) (by decide +kernel) (Nat.le_of_ble_eq_true rfl) rfl ?_
  refine wp_aload_n dX10_finding_0 rfl rfl ?_
  refine wp_getI dX10_finding_1 rfl fb_10_11 m_2_41 ?_
  exact wp_iret (ty := .int) dX10_finding_4 rfl rfl h
abbrev C_X10_findings (G : Glob) (x1 : Int32) (M : Mem) (Q : Option Value → Mem → Prop) : Prop := WpM G 1 Y_X10_findings [.ref (ad G 0), .int x1] M Q
set_option maxRecDepth 20000 in
theorem v_X10_findings {G : Glob} {x1 : Int32} {M : Mem} {Q : Option Value → Mem → Prop}  (h : ((x1 < 1 → Q (some (.int (-1 : Int32))) M) ∧ (¬ x1 < 1 → (((5 : Int32) < x1 → Q (some (.int (-1 : Int32))) M) ∧ (¬ (5 : Int32) < x1 → (vp_in x1 6 ∧ Q (some (.int (M.1 44 x1.toNatClampNeg))) M)))))) : C_X10_findings G x1 M Q := by
  refine wp_enter (ls0 := [some (.ref (ad G 0)), some (.int x1)]) (by decide +kernel) (Nat.le_of_ble_eq_true rfl) rfl ?_
  refine wp_iload_n dX10_findings_0 rfl rfl ?_
  refine wp_iconst (v := 1) dX10_findings_1 (by decide) ?_
  refine wp_icmp_lt (tgt := 10) dX10_findings_2 (by decide) (fun c1 => ?_) (fun c1 => ?_)
  · replace h := h.1 c1
    refine wp_iconst (v := (-1 : Int32)) dX10_findings_10 (by decide) ?_
    exact wp_iret (ty := .int) dX10_findings_11 rfl rfl h
  · replace h := h.2 c1
    refine wp_iload_n dX10_findings_5 rfl rfl ?_
    refine wp_iconst (v := 5) dX10_findings_6 (by decide) ?_
    refine wp_icmp_le (tgt := 12) dX10_findings_7 (by decide) (fun c2 => ?_) (fun c2 => ?_)
    · replace h := h.2 c2
      refine wp_aload_n dX10_findings_12 rfl rfl ?_
      refine wp_getR (b := 44) dX10_findings_13 rfl rfl fb_10_10 m_2_40 ?_
      refine wp_iload_n dX10_findings_16 rfl rfl ?_
      obtain ⟨b3, h⟩ := h
      refine wp_iald (n := 6) dX10_findings_17 rfl rfl b3 ?_
      exact wp_iret (ty := .int) dX10_findings_18 rfl rfl h
    · replace h := h.1 c2
      refine wp_iconst (v := (-1 : Int32)) dX10_findings_10 (by decide) ?_
      exact wp_iret (ty := .int) dX10_findings_11 rfl rfl h
abbrev P_X10_digest_6 (G : Glob) (x1 : Int64) (x3 : Int32) (M : Mem) (Q : Option Value → Mem → Prop) : Prop := Wp G 6 Y_X10_digest 6 [some (.ref (ad G 0)), some (.long x1), none, some (.int x3), none] [] M Q
abbrev P_X10_digest_33 (G : Glob) (x1 : Int64) (x3 : Int32) (M : Mem) (Q : Option Value → Mem → Prop) : Prop := Wp G 6 Y_X10_digest 33 [some (.ref (ad G 0)), some (.long x1), none, some (.int x3), none] [] M Q
abbrev P_X10_digest_47 (G : Glob) (x1 : Int64) (x3 : Int32) (x4 : Int32) (M : Mem) (Q : Option Value → Mem → Prop) : Prop := Wp G 6 Y_X10_digest 47 [some (.ref (ad G 0)), some (.long x1), none, some (.int x3), some (.int x4)] [] M Q
abbrev P_X10_digest_90 (G : Glob) (x1 : Int64) (x3 : Int32) (M : Mem) (Q : Option Value → Mem → Prop) : Prop := Wp G 6 Y_X10_digest 90 [some (.ref (ad G 0)), some (.long x1), none, some (.int x3), none] [] M Q
set_option maxRecDepth 20000 in
theorem v_X10_digest_6 {G : Glob} {x1 : Int64} {x3 : Int32} {M : Mem} {Q : Option Value → Mem → Prop}  (h : ((x3 < 11 → (WpM G 5 Y_X10_count [.ref (ad G 0), .int x3] M (RI (fun r3 M2 => P_X10_digest_6 G ((31 * x1) + r3.toInt64) (x3 + 1) M2 Q)))) ∧ (¬ x3 < 11 → P_X10_digest_33 G x1 0 M Q))) : P_X10_digest_6 G x1 x3 M Q := by
  refine wp_iload_n dX10_digest_6 rfl rfl ?_
  refine wp_bipush (v := 11) dX10_digest_7 (by decide) ?_
  refine wp_icmp_ge (tgt := 31) dX10_digest_9 (by decide) (fun c1 => ?_) (fun c1 => ?_)
  · replace h := h.2 c1
    refine wp_iconst (v := 0) dX10_digest_31 (by decide) ?_
    refine wp_istore_n (ls' := [some (.ref (ad G 0)), some (.long x1), none, some (.int 0), none]) dX10_digest_32 rfl (by decide) rfl rfl ?_
    exact h
  · replace h := h.1 c1
    refine wp_ldc2 (v := 31) m_3_32 dX10_digest_12 ?_
    refine wp_lload_n dX10_digest_15 rfl rfl ?_
    refine wp_lmul dX10_digest_16 ?_
    refine wp_aload_n dX10_digest_17 rfl rfl ?_
    refine wp_iload_n dX10_digest_18 rfl rfl ?_
    refine wp_callVI (a := 0) (d1 := 5) (As := [.int x3]) (st := [.long (31 * x1)]) dX10_digest_19 rfl cm_X10_count m_3_33 (by decide) rfl (Nat.le_of_ble_eq_true rfl) rfl h ?_
    intro r3 M2 h
    refine wp_i2l dX10_digest_22 ?_
    refine wp_ladd dX10_digest_23 ?_
    refine wp_lstore_n (ls' := [some (.ref (ad G 0)), some (.long ((31 * x1) + r3.toInt64)), none, some (.int x3), none]) dX10_digest_24 rfl (by decide) rfl rfl ?_
    refine wp_iinc (v := (x3 + 1)) (ls' := [some (.ref (ad G 0)), some (.long ((31 * x1) + r3.toInt64)), none, some (.int (x3 + 1)), none]) dX10_digest_25 rfl rfl (by decide) rfl rfl ?_
    refine wp_goto (tgt := 6) dX10_digest_28 (by decide) ?_
    exact h
set_option maxRecDepth 20000 in
theorem v_X10_digest_33 {G : Glob} {x1 : Int64} {x3 : Int32} {M : Mem} {Q : Option Value → Mem → Prop}  (h : ((x3 < (M.1 12 2) → P_X10_digest_47 G x1 x3 0 M Q) ∧ (¬ x3 < (M.1 12 2) → P_X10_digest_90 G x1 0 M Q))) : P_X10_digest_33 G x1 x3 M Q := by
  refine wp_iload_n dX10_digest_33 rfl rfl ?_
  refine wp_aload_n dX10_digest_34 rfl rfl ?_
  refine wp_getR (b := 12) dX10_digest_35 rfl rfl fb_10_3 m_2_33 ?_
  refine wp_getI dX10_digest_38 rfl fb_3_2 m_1_155 ?_
  refine wp_icmp_ge (tgt := 88) dX10_digest_41 (by decide) (fun c1 => ?_) (fun c1 => ?_)
  · replace h := h.2 c1
    refine wp_iconst (v := 0) dX10_digest_88 (by decide) ?_
    refine wp_istore_n (ls' := [some (.ref (ad G 0)), some (.long x1), none, some (.int 0), none]) dX10_digest_89 rfl (by decide) rfl rfl ?_
    exact h
  · replace h := h.1 c1
    refine wp_iconst (v := 0) dX10_digest_44 (by decide) ?_
    refine wp_istore (ls' := [some (.ref (ad G 0)), some (.long x1), none, some (.int x3), some (.int 0)]) dX10_digest_45 (by decide) rfl rfl ?_
    exact h
set_option maxRecDepth 20000 in
theorem v_X10_digest_47 {G : Glob} {x1 : Int64} {x3 : Int32} {x4 : Int32} {M : Mem} {Q : Option Value → Mem → Prop}  (h : ((x4 < 7 → (vp_in x3 8 ∧ (WpM G 3 Y_X4_tell [.ref (ad G (55 + x3.toNatClampNeg)), .int x4] M (RI (fun r4 M3 => P_X10_digest_47 G ((31 * x1) + r4.toInt64) x3 (x4 + 1) M3 Q))))) ∧ (¬ x4 < 7 → P_X10_digest_33 G x1 (x3 + 1) M Q))) : P_X10_digest_47 G x1 x3 x4 M Q := by
  refine wp_iload dX10_digest_47 rfl ?_
  refine wp_bipush (v := 7) dX10_digest_49 (by decide) ?_
  refine wp_icmp_ge (tgt := 82) dX10_digest_51 (by decide) (fun c1 => ?_) (fun c1 => ?_)
  · replace h := h.2 c1
    refine wp_iinc (v := (x3 + 1)) (ls' := [some (.ref (ad G 0)), some (.long x1), none, some (.int (x3 + 1)), some (.int x4)]) dX10_digest_82 rfl rfl (by decide) rfl rfl ?_
    refine wp_goto (tgt := 33) dX10_digest_85 (by decide) ?_
    exact wp_mask [true, true, false, true, false] rfl h
  · replace h := h.1 c1
    refine wp_ldc2 (v := 31) m_3_32 dX10_digest_54 ?_
    refine wp_lload_n dX10_digest_57 rfl rfl ?_
    refine wp_lmul dX10_digest_58 ?_
    refine wp_aload_n dX10_digest_59 rfl rfl ?_
    refine wp_getR (b := 12) dX10_digest_60 rfl rfl fb_10_3 m_2_33 ?_
    refine wp_getR (b := 13) dX10_digest_63 rfl rfl fb_3_0 m_1_147 ?_
    refine wp_iload_n dX10_digest_66 rfl rfl ?_
    obtain ⟨b2, h⟩ := h
    refine wp_aald (b := (55 + x3.toNatClampNeg)) (n := 8) dX10_digest_67 rfl (by decide) rfl b2 rfl ?_
    have kb2 : kd (55 + x3.toNatClampNeg) = 4 := (kda_23 (a := 13) rfl (vp_lt b2))
    refine wp_iload dX10_digest_68 rfl ?_
    refine wp_callVI (a := (55 + x3.toNatClampNeg)) (d1 := 3) (As := [.int x4]) (st := [.long (31 * x1)]) dX10_digest_70 kb2 cm_X4_tell m_3_34 (by decide) rfl (Nat.le_of_ble_eq_true rfl) rfl h ?_
    intro r4 M3 h
    refine wp_i2l dX10_digest_73 ?_
    refine wp_ladd dX10_digest_74 ?_
    refine wp_lstore_n (ls' := [some (.ref (ad G 0)), some (.long ((31 * x1) + r4.toInt64)), none, some (.int x3), some (.int x4)]) dX10_digest_75 rfl (by decide) rfl rfl ?_
    refine wp_iinc (v := (x4 + 1)) (ls' := [some (.ref (ad G 0)), some (.long ((31 * x1) + r4.toInt64)), none, some (.int x3), some (.int (x4 + 1))]) dX10_digest_76 rfl rfl (by decide) rfl rfl ?_
    refine wp_goto (tgt := 47) dX10_digest_79 (by decide) ?_
    exact h
set_option maxRecDepth 20000 in
theorem v_X10_digest_90 {G : Glob} {x1 : Int64} {x3 : Int32} {M : Mem} {Q : Option Value → Mem → Prop}  (h : ((x3 < 3 → (vp_in x3 3 ∧ (∀ y7 : Int64, y7 = ((31 * x1) + (M.1 (17 + x3.toNatClampNeg) 1).toInt64) → P_X10_digest_90 G y7 (x3 + 1) M Q))) ∧ (¬ x3 < 3 → (WpM G 5 Y_X9_digestOn [.ref (ad G 1), .long x1] M (RJ (fun r3 M2 => (WpM G 5 Y_X9_digestOn [.ref (ad G 4), .long r3] M2 (RJ (fun r5 M4 => Q (some (.long r5)) M4))))))))) : P_X10_digest_90 G x1 x3 M Q := by
  refine wp_iload_n dX10_digest_90 rfl rfl ?_
  refine wp_iconst (v := 3) dX10_digest_91 (by decide) ?_
  refine wp_icmp_ge (tgt := 118) dX10_digest_92 (by decide) (fun c1 => ?_) (fun c1 => ?_)
  · replace h := h.2 c1
    refine wp_aload_n dX10_digest_118 rfl rfl ?_
    refine wp_getR (b := 4) dX10_digest_119 rfl rfl fb_10_1 m_2_31 ?_
    refine wp_aload_n dX10_digest_122 rfl rfl ?_
    refine wp_getR (b := 1) dX10_digest_123 rfl rfl fb_10_0 m_2_30 ?_
    refine wp_lload_n dX10_digest_126 rfl rfl ?_
    refine wp_callVL (a := 1) (d1 := 5) (As := [.long x1]) (st := [.ref (ad G 4)]) dX10_digest_127 rfl cm_X9_digestOn m_3_38 (by decide) rfl (Nat.le_of_ble_eq_true rfl) rfl h ?_
    intro r3 M2 h
    refine wp_callVL (a := 4) (d1 := 5) (As := [.long r3]) (st := []) dX10_digest_130 rfl cm_X9_digestOn m_3_38 (by decide) rfl (Nat.le_of_ble_eq_true rfl) rfl h ?_
    intro r5 M4 h
    exact wp_lret dX10_digest_133 rfl h
  · replace h := h.1 c1
    refine wp_ldc2 (v := 31) m_3_32 dX10_digest_95 ?_
    refine wp_lload_n dX10_digest_98 rfl rfl ?_
    refine wp_lmul dX10_digest_99 ?_
    refine wp_aload_n dX10_digest_100 rfl rfl ?_
    refine wp_getR (b := 16) dX10_digest_101 rfl rfl fb_10_4 m_2_34 ?_
    refine wp_iload_n dX10_digest_104 rfl rfl ?_
    obtain ⟨b6, h⟩ := h
    refine wp_aald (b := (17 + x3.toNatClampNeg)) (n := 3) dX10_digest_105 rfl (by decide) rfl b6 rfl ?_
    have kb6 : kd (17 + x3.toNatClampNeg) = 2 := (kda_22 (a := 16) rfl (vp_lt b6))
    refine wp_getI dX10_digest_106 kb6 fb_2_1 m_1_95 ?_
    refine wp_i2l dX10_digest_109 ?_
    refine wp_ladd dX10_digest_110 ?_
    refine wp_topJ (fun y7 hy7 => ?_)
    replace h := h y7 hy7
    refine wp_lstore_n (ls' := [some (.ref (ad G 0)), some (.long y7), none, some (.int x3), none]) dX10_digest_111 rfl (by decide) rfl rfl ?_
    refine wp_iinc (v := (x3 + 1)) (ls' := [some (.ref (ad G 0)), some (.long y7), none, some (.int (x3 + 1)), none]) dX10_digest_112 rfl rfl (by decide) rfl rfl ?_
    refine wp_goto (tgt := 90) dX10_digest_115 (by decide) ?_
    exact h
abbrev C_X10_digest (G : Glob)  (M : Mem) (Q : Option Value → Mem → Prop) : Prop := WpM G 6 Y_X10_digest [.ref (ad G 0)] M Q
set_option maxRecDepth 20000 in
theorem v_X10_digest {G : Glob} {M : Mem} {Q : Option Value → Mem → Prop}  (h : P_X10_digest_6 G 17 0 M Q) : C_X10_digest G  M Q := by
  refine wp_enter (ls0 := [some (.ref (ad G 0)), none, none, none, none]) (by decide +kernel) (Nat.le_of_ble_eq_true rfl) rfl ?_
  refine wp_ldc2 (v := 17) m_3_31 dX10_digest_0 ?_
  refine wp_lstore_n (ls' := [some (.ref (ad G 0)), some (.long 17), none, none, none]) dX10_digest_3 rfl (by decide) rfl rfl ?_
  refine wp_iconst (v := 0) dX10_digest_4 (by decide) ?_
  refine wp_istore_n (ls' := [some (.ref (ad G 0)), some (.long 17), none, some (.int 0), none]) dX10_digest_5 rfl (by decide) rfl rfl ?_
  exact h
abbrev C_X10_finds (G : Glob) (x1 : Int32) (M : Mem) (Q : Option Value → Mem → Prop) : Prop := WpM G 1 Y_X10_finds [.ref (ad G 0), .int x1] M Q
set_option maxRecDepth 20000 in
theorem v_X10_finds {G : Glob} {x1 : Int32} {M : Mem} {Q : Option Value → Mem → Prop}  (h : (∀ M1 : Mem, M1 = upI M 0 11 x1 → ((x1 < 1 → Q (some (.int (-3 : Int32))) M1) ∧ (¬ x1 < 1 → (((5 : Int32) < x1 → Q (some (.int (-3 : Int32))) M1) ∧ (¬ (5 : Int32) < x1 → (vp_in x1 6 ∧ (vp_in x1 6 ∧ (∀ M6 : Mem, M6 = upI M1 44 (x1.toNatClampNeg) ((M1.1 44 x1.toNatClampNeg) + 1) → Q (some (.int (-3 : Int32))) M6))))))))) : C_X10_finds G x1 M Q := by
  refine wp_enter (ls0 := [some (.ref (ad G 0)), some (.int x1)]) (by decide +kernel) (Nat.le_of_ble_eq_true rfl) rfl ?_
  refine wp_aload_n dX10_finds_0 rfl rfl ?_
  refine wp_iload_n dX10_finds_1 rfl rfl ?_
  refine wp_putI dX10_finds_2 rfl fp_10_11 m_2_41 ?_
  refine wp_topM (fun M1 hM1 => ?_)
  replace h := h M1 hM1
  refine wp_iload_n dX10_finds_5 rfl rfl ?_
  refine wp_iconst (v := 1) dX10_finds_6 (by decide) ?_
  refine wp_icmp_lt (tgt := 25) dX10_finds_7 (by decide) (fun c2 => ?_) (fun c2 => ?_)
  · replace h := h.1 c2
    refine wp_bipush (v := (-3 : Int32)) dX10_finds_25 (by decide) ?_
    exact wp_iret (ty := .int) dX10_finds_27 rfl rfl h
  · replace h := h.2 c2
    refine wp_iload_n dX10_finds_10 rfl rfl ?_
    refine wp_iconst (v := 5) dX10_finds_11 (by decide) ?_
    refine wp_icmp_gt (tgt := 25) dX10_finds_12 (by decide) (fun c3 => ?_) (fun c3 => ?_)
    · replace h := h.1 c3
      refine wp_bipush (v := (-3 : Int32)) dX10_finds_25 (by decide) ?_
      exact wp_iret (ty := .int) dX10_finds_27 rfl rfl h
    · replace h := h.2 c3
      refine wp_aload_n dX10_finds_15 rfl rfl ?_
      refine wp_getR (b := 44) dX10_finds_16 rfl rfl fb_10_10 m_2_40 ?_
      refine wp_iload_n dX10_finds_19 rfl rfl ?_
      refine wp_dup2 dX10_finds_20 rfl rfl ?_
      obtain ⟨b4, h⟩ := h
      refine wp_iald (n := 6) dX10_finds_21 rfl rfl b4 ?_
      refine wp_iconst (v := 1) dX10_finds_22 (by decide) ?_
      refine wp_iadd dX10_finds_23 ?_
      obtain ⟨b5, h⟩ := h
      refine wp_iast (n := 6) dX10_finds_24 rfl rfl b5 ?_
      refine wp_topM (fun M6 hM6 => ?_)
      replace h := h M6 hM6
      refine wp_bipush (v := (-3 : Int32)) dX10_finds_25 (by decide) ?_
      exact wp_iret (ty := .int) dX10_finds_27 rfl rfl h
abbrev C_X10_tells (G : Glob) (x1 : Int32) (M : Mem) (Q : Option Value → Mem → Prop) : Prop := WpM G 1 Y_X10_tells [.ref (ad G 0), .int x1] M Q
set_option maxRecDepth 20000 in
theorem v_X10_tells {G : Glob} {x1 : Int32} {M : Mem} {Q : Option Value → Mem → Prop}  (h : (∀ M1 : Mem, M1 = upI M 0 12 x1 → Q (some (.int 1)) M1)) : C_X10_tells G x1 M Q := by
  refine wp_enter (ls0 := [some (.ref (ad G 0)), some (.int x1)]) (by decide +kernel) (Nat.le_of_ble_eq_true rfl) rfl ?_
  refine wp_aload_n dX10_tells_0 rfl rfl ?_
  refine wp_iload_n dX10_tells_1 rfl rfl ?_
  refine wp_putI dX10_tells_2 rfl fp_10_12 m_2_42 ?_
  refine wp_topM (fun M1 hM1 => ?_)
  replace h := h M1 hM1
  refine wp_iconst (v := 1) dX10_tells_5 (by decide) ?_
  exact wp_iret (ty := .int) dX10_tells_6 rfl rfl h
abbrev C_X10_refusedRow (G : Glob) (x1 : Int32) (M : Mem) (Q : Option Value → Mem → Prop) : Prop := WpM G 4 Y_X10_refusedRow [.ref (ad G 0), .int x1] M Q
set_option maxRecDepth 20000 in
theorem v_X10_refusedRow {G : Glob} {x1 : Int32} {M : Mem} {Q : Option Value → Mem → Prop}  (h : (WpM G 1 Y_X9_isNumber [.ref (ad G 1), .int x1] M (RI (fun r2 M1 => ((r2 = 0 → Q (some (.int (-1 : Int32))) M1) ∧ (¬ r2 = 0 → (WpM G 3 Y_X9_isThere [.ref (ad G 1), .int x1] M1 (RI (fun r5 M4 => ((r5 = 0 → (WpM G 1 Y_X10_finds [.ref (ad G 0), .int 1] M4 (RI (fun r8 M7 => Q (some (.int r8)) M7)))) ∧ (¬ r5 = 0 → Q (some (.int 0)) M4))))))))))) : C_X10_refusedRow G x1 M Q := by
  refine wp_enter (ls0 := [some (.ref (ad G 0)), some (.int x1)]) (by decide +kernel) (Nat.le_of_ble_eq_true rfl) rfl ?_
  refine wp_aload_n dX10_refusedRow_0 rfl rfl ?_
  refine wp_getR (b := 1) dX10_refusedRow_1 rfl rfl fb_10_0 m_2_30 ?_
  refine wp_iload_n dX10_refusedRow_4 rfl rfl ?_
  refine wp_callVI (a := 1) (d1 := 1) (As := [.int x1]) (st := []) dX10_refusedRow_5 rfl cm_X9_isNumber m_3_66 (by decide) rfl (Nat.le_of_ble_eq_true rfl) rfl h ?_
  intro r2 M1 h
  refine wp_if_ne (tgt := 13) dX10_refusedRow_8 (by decide) (fun c3 => ?_) (fun c3 => ?_)
  · replace h := h.2 c3
    refine wp_aload_n dX10_refusedRow_13 rfl rfl ?_
    refine wp_getR (b := 1) dX10_refusedRow_14 rfl rfl fb_10_0 m_2_30 ?_
    refine wp_iload_n dX10_refusedRow_17 rfl rfl ?_
    refine wp_callVI (a := 1) (d1 := 3) (As := [.int x1]) (st := []) dX10_refusedRow_18 rfl cm_X9_isThere m_3_83 (by decide) rfl (Nat.le_of_ble_eq_true rfl) rfl h ?_
    intro r5 M4 h
    refine wp_if_eq (tgt := 28) dX10_refusedRow_21 (by decide) (fun c6 => ?_) (fun c6 => ?_)
    · replace h := h.1 c6
      refine wp_aload_n dX10_refusedRow_28 rfl rfl ?_
      refine wp_iconst (v := 1) dX10_refusedRow_29 (by decide) ?_
      refine wp_callVI (a := 0) (d1 := 1) (As := [.int 1]) (st := []) dX10_refusedRow_30 rfl cm_X10_finds m_2_174 (by decide) rfl (Nat.le_of_ble_eq_true rfl) rfl h ?_
      intro r8 M7 h
      exact wp_iret (ty := .int) dX10_refusedRow_33 rfl rfl h
    · replace h := h.2 c6
      refine wp_iconst (v := 0) dX10_refusedRow_24 (by decide) ?_
      refine wp_goto (tgt := 33) dX10_refusedRow_25 (by decide) ?_
      exact wp_iret (ty := .int) dX10_refusedRow_33 rfl rfl h
  · replace h := h.1 c3
    refine wp_iconst (v := (-1 : Int32)) dX10_refusedRow_11 (by decide) ?_
    exact wp_iret (ty := .int) dX10_refusedRow_12 rfl rfl h
abbrev C_X10_refusedPlace (G : Glob) (x1 : Int32) (x2 : Int32) (M : Mem) (Q : Option Value → Mem → Prop) : Prop := WpM G 5 Y_X10_refusedPlace [.ref (ad G 0), .int x1, .int x2] M Q
set_option maxRecDepth 20000 in
theorem v_X10_refusedPlace {G : Glob} {x1 : Int32} {x2 : Int32} {M : Mem} {Q : Option Value → Mem → Prop}  (h : (WpM G 4 Y_X10_refusedRow [.ref (ad G 0), .int x1] M (RI (fun r2 M1 => ((r2 = 0 → (WpM G 3 Y_X9_holds [.ref (ad G 1), .int x1, .int x2] M1 (RI (fun r5 M4 => ((r5 = 0 → (WpM G 1 Y_X10_finds [.ref (ad G 0), .int 2] M4 (RI (fun r8 M7 => Q (some (.int r8)) M7)))) ∧ (¬ r5 = 0 → Q (some (.int 0)) M4)))))) ∧ (¬ r2 = 0 → Q (some (.int r2)) M1)))))) : C_X10_refusedPlace G x1 x2 M Q := by
  refine wp_enter (ls0 := [some (.ref (ad G 0)), some (.int x1), some (.int x2), none]) (by decide +kernel) (Nat.le_of_ble_eq_true rfl) rfl ?_
  refine wp_aload_n dX10_refusedPlace_0 rfl rfl ?_
  refine wp_iload_n dX10_refusedPlace_1 rfl rfl ?_
  refine wp_callVI (a := 0) (d1 := 4) (As := [.int x1]) (st := []) dX10_refusedPlace_2 rfl cm_X10_refusedRow m_3_79 (by decide) rfl (Nat.le_of_ble_eq_true rfl) rfl h ?_
  intro r2 M1 h
  refine wp_istore_n (ls' := [some (.ref (ad G 0)), some (.int x1), some (.int x2), some (.int r2)]) dX10_refusedPlace_5 rfl (by decide) rfl rfl ?_
  refine wp_iload_n dX10_refusedPlace_6 rfl rfl ?_
  refine wp_if_eq (tgt := 12) dX10_refusedPlace_7 (by decide) (fun c3 => ?_) (fun c3 => ?_)
  · replace h := h.1 c3
    refine wp_aload_n dX10_refusedPlace_12 rfl rfl ?_
    refine wp_getR (b := 1) dX10_refusedPlace_13 rfl rfl fb_10_0 m_2_30 ?_
    refine wp_iload_n dX10_refusedPlace_16 rfl rfl ?_
    refine wp_iload_n dX10_refusedPlace_17 rfl rfl ?_
    refine wp_callVI (a := 1) (d1 := 3) (As := [.int x1, .int x2]) (st := []) dX10_refusedPlace_18 rfl cm_X9_holds m_3_84 (by decide) rfl (Nat.le_of_ble_eq_true rfl) rfl h ?_
    intro r5 M4 h
    refine wp_if_eq (tgt := 28) dX10_refusedPlace_21 (by decide) (fun c6 => ?_) (fun c6 => ?_)
    · replace h := h.1 c6
      refine wp_aload_n dX10_refusedPlace_28 rfl rfl ?_
      refine wp_iconst (v := 2) dX10_refusedPlace_29 (by decide) ?_
      refine wp_callVI (a := 0) (d1 := 1) (As := [.int 2]) (st := []) dX10_refusedPlace_30 rfl cm_X10_finds m_2_174 (by decide) rfl (Nat.le_of_ble_eq_true rfl) rfl h ?_
      intro r8 M7 h
      exact wp_iret (ty := .int) dX10_refusedPlace_33 rfl rfl h
    · replace h := h.2 c6
      refine wp_iconst (v := 0) dX10_refusedPlace_24 (by decide) ?_
      refine wp_goto (tgt := 33) dX10_refusedPlace_25 (by decide) ?_
      exact wp_iret (ty := .int) dX10_refusedPlace_33 rfl rfl h
  · replace h := h.2 c3
    refine wp_iload_n dX10_refusedPlace_10 rfl rfl ?_
    exact wp_iret (ty := .int) dX10_refusedPlace_11 rfl rfl h
abbrev C_X10_refusedText (G : Glob) (x1 : Int32) (M : Mem) (Q : Option Value → Mem → Prop) : Prop := WpM G 4 Y_X10_refusedText [.ref (ad G 0), .int x1] M Q
set_option maxRecDepth 20000 in
theorem v_X10_refusedText {G : Glob} {x1 : Int32} {M : Mem} {Q : Option Value → Mem → Prop}  (h : (WpM G 1 Y_X9_isNumber [.ref (ad G 4), .int x1] M (RI (fun r2 M1 => ((r2 = 0 → Q (some (.int (-1 : Int32))) M1) ∧ (¬ r2 = 0 → (WpM G 3 Y_X9_isThere [.ref (ad G 4), .int x1] M1 (RI (fun r5 M4 => ((r5 = 0 → (WpM G 1 Y_X10_finds [.ref (ad G 0), .int 1] M4 (RI (fun r8 M7 => Q (some (.int r8)) M7)))) ∧ (¬ r5 = 0 → Q (some (.int 0)) M4))))))))))) : C_X10_refusedText G x1 M Q := by
  refine wp_enter (ls0 := [some (.ref (ad G 0)), some (.int x1)]) (by decide +kernel) (Nat.le_of_ble_eq_true rfl) rfl ?_
  refine wp_aload_n dX10_refusedText_0 rfl rfl ?_
  refine wp_getR (b := 4) dX10_refusedText_1 rfl rfl fb_10_1 m_2_31 ?_
  refine wp_iload_n dX10_refusedText_4 rfl rfl ?_
  refine wp_callVI (a := 4) (d1 := 1) (As := [.int x1]) (st := []) dX10_refusedText_5 rfl cm_X9_isNumber m_3_66 (by decide) rfl (Nat.le_of_ble_eq_true rfl) rfl h ?_
  intro r2 M1 h
  refine wp_if_ne (tgt := 13) dX10_refusedText_8 (by decide) (fun c3 => ?_) (fun c3 => ?_)
  · replace h := h.2 c3
    refine wp_aload_n dX10_refusedText_13 rfl rfl ?_
    refine wp_getR (b := 4) dX10_refusedText_14 rfl rfl fb_10_1 m_2_31 ?_
    refine wp_iload_n dX10_refusedText_17 rfl rfl ?_
    refine wp_callVI (a := 4) (d1 := 3) (As := [.int x1]) (st := []) dX10_refusedText_18 rfl cm_X9_isThere m_3_83 (by decide) rfl (Nat.le_of_ble_eq_true rfl) rfl h ?_
    intro r5 M4 h
    refine wp_if_eq (tgt := 28) dX10_refusedText_21 (by decide) (fun c6 => ?_) (fun c6 => ?_)
    · replace h := h.1 c6
      refine wp_aload_n dX10_refusedText_28 rfl rfl ?_
      refine wp_iconst (v := 1) dX10_refusedText_29 (by decide) ?_
      refine wp_callVI (a := 0) (d1 := 1) (As := [.int 1]) (st := []) dX10_refusedText_30 rfl cm_X10_finds m_2_174 (by decide) rfl (Nat.le_of_ble_eq_true rfl) rfl h ?_
      intro r8 M7 h
      exact wp_iret (ty := .int) dX10_refusedText_33 rfl rfl h
    · replace h := h.2 c6
      refine wp_iconst (v := 0) dX10_refusedText_24 (by decide) ?_
      refine wp_goto (tgt := 33) dX10_refusedText_25 (by decide) ?_
      exact wp_iret (ty := .int) dX10_refusedText_33 rfl rfl h
  · replace h := h.1 c3
    refine wp_iconst (v := (-1 : Int32)) dX10_refusedText_11 (by decide) ?_
    exact wp_iret (ty := .int) dX10_refusedText_12 rfl rfl h
abbrev C_X10_refusedGuess (G : Glob) (x1 : Int32) (x2 : Int32) (M : Mem) (Q : Option Value → Mem → Prop) : Prop := WpM G 6 Y_X10_refusedGuess [.ref (ad G 0), .int x1, .int x2] M Q
set_option maxRecDepth 20000 in
theorem v_X10_refusedGuess {G : Glob} {x1 : Int32} {x2 : Int32} {M : Mem} {Q : Option Value → Mem → Prop}  (h : (WpM G 1 Y_X3_has [.ref (ad G 12), .int x1] M (RI (fun r2 M1 => ((r2 = 0 → Q (some (.int (-1 : Int32))) M1) ∧ (¬ r2 = 0 → (WpM G 4 Y_X10_refusedRow [.ref (ad G 0), .int x2] M1 (RI (fun r5 M4 => ((r5 = 0 → (WpM G 2 Y_X9_sizeOf [.ref (ad G 1), .int x2] M4 (RI (fun r8 M7 => (((r8 - r8 / 2 * 2) = 0 → (WpM G 5 Y_X5_isWellTold [.ref (ad G 36), .ref (ad G 12), .int x1, .ref (ad G 1), .int x2] M7 (RI (fun r11 M10 => ((r11 = 0 → (WpM G 1 Y_X10_finds [.ref (ad G 0), .int 3] M10 (RI (fun r14 M13 => Q (some (.int r14)) M13)))) ∧ (¬ r11 = 0 → Q (some (.int 0)) M10)))))) ∧ (¬ (r8 - r8 / 2 * 2) = 0 → (WpM G 1 Y_X10_finds [.ref (ad G 0), .int 5] M7 (RI (fun r16 M15 => Q (some (.int r16)) M15))))))))) ∧ (¬ r5 = 0 → Q (some (.int r5)) M4))))))))))) : C_X10_refusedGuess G x1 x2 M Q := by
  refine wp_enter (ls0 := [some (.ref (ad G 0)), some (.int x1), some (.int x2), none]) (by decide +kernel) (Nat.le_of_ble_eq_true rfl) rfl ?_
  refine wp_aload_n dX10_refusedGuess_0 rfl rfl ?_
  refine wp_getR (b := 12) dX10_refusedGuess_1 rfl rfl fb_10_3 m_2_33 ?_
  refine wp_iload_n dX10_refusedGuess_4 rfl rfl ?_
  refine wp_callVI (a := 12) (d1 := 1) (As := [.int x1]) (st := []) dX10_refusedGuess_5 rfl cm_X3_has m_2_74 (by decide) rfl (Nat.le_of_ble_eq_true rfl) rfl h ?_
  intro r2 M1 h
  refine wp_if_ne (tgt := 13) dX10_refusedGuess_8 (by decide) (fun c3 => ?_) (fun c3 => ?_)
  · replace h := h.2 c3
    refine wp_aload_n dX10_refusedGuess_13 rfl rfl ?_
    refine wp_iload_n dX10_refusedGuess_14 rfl rfl ?_
    refine wp_callVI (a := 0) (d1 := 4) (As := [.int x2]) (st := []) dX10_refusedGuess_15 rfl cm_X10_refusedRow m_3_79 (by decide) rfl (Nat.le_of_ble_eq_true rfl) rfl h ?_
    intro r5 M4 h
    refine wp_istore_n (ls' := [some (.ref (ad G 0)), some (.int x1), some (.int x2), some (.int r5)]) dX10_refusedGuess_18 rfl (by decide) rfl rfl ?_
    refine wp_iload_n dX10_refusedGuess_19 rfl rfl ?_
    refine wp_if_eq (tgt := 25) dX10_refusedGuess_20 (by decide) (fun c6 => ?_) (fun c6 => ?_)
    · replace h := h.1 c6
      refine wp_aload_n dX10_refusedGuess_25 rfl rfl ?_
      refine wp_getR (b := 1) dX10_refusedGuess_26 rfl rfl fb_10_0 m_2_30 ?_
      refine wp_iload_n dX10_refusedGuess_29 rfl rfl ?_
      refine wp_callVI (a := 1) (d1 := 2) (As := [.int x2]) (st := []) dX10_refusedGuess_30 rfl cm_X9_sizeOf m_3_126 (by decide) rfl (Nat.le_of_ble_eq_true rfl) rfl h ?_
      intro r8 M7 h
      refine wp_iconst (v := 2) dX10_refusedGuess_33 (by decide) ?_
      refine wp_irem dX10_refusedGuess_34 (by decide) ?_
      refine wp_if_eq (tgt := 44) dX10_refusedGuess_35 (by decide) (fun c9 => ?_) (fun c9 => ?_)
      · replace h := h.1 c9
        refine wp_aload_n dX10_refusedGuess_44 rfl rfl ?_
        refine wp_getR (b := 36) dX10_refusedGuess_45 rfl rfl fb_10_7 m_2_37 ?_
        refine wp_aload_n dX10_refusedGuess_48 rfl rfl ?_
        refine wp_getR (b := 12) dX10_refusedGuess_49 rfl rfl fb_10_3 m_2_33 ?_
        refine wp_iload_n dX10_refusedGuess_52 rfl rfl ?_
        refine wp_aload_n dX10_refusedGuess_53 rfl rfl ?_
        refine wp_getR (b := 1) dX10_refusedGuess_54 rfl rfl fb_10_0 m_2_30 ?_
        refine wp_iload_n dX10_refusedGuess_57 rfl rfl ?_
        refine wp_callVI (a := 36) (d1 := 5) (As := [.ref (ad G 12), .int x1, .ref (ad G 1), .int x2]) (st := []) dX10_refusedGuess_58 rfl cm_X5_isWellTold m_4_30 (by decide) rfl (Nat.le_of_ble_eq_true rfl) rfl h ?_
        intro r11 M10 h
        refine wp_if_eq (tgt := 68) dX10_refusedGuess_61 (by decide) (fun c12 => ?_) (fun c12 => ?_)
        · replace h := h.1 c12
          refine wp_aload_n dX10_refusedGuess_68 rfl rfl ?_
          refine wp_iconst (v := 3) dX10_refusedGuess_69 (by decide) ?_
          refine wp_callVI (a := 0) (d1 := 1) (As := [.int 3]) (st := []) dX10_refusedGuess_70 rfl cm_X10_finds m_2_174 (by decide) rfl (Nat.le_of_ble_eq_true rfl) rfl h ?_
          intro r14 M13 h
          exact wp_iret (ty := .int) dX10_refusedGuess_73 rfl rfl h
        · replace h := h.2 c12
          refine wp_iconst (v := 0) dX10_refusedGuess_64 (by decide) ?_
          refine wp_goto (tgt := 73) dX10_refusedGuess_65 (by decide) ?_
          exact wp_iret (ty := .int) dX10_refusedGuess_73 rfl rfl h
      · replace h := h.2 c9
        refine wp_aload_n dX10_refusedGuess_38 rfl rfl ?_
        refine wp_iconst (v := 5) dX10_refusedGuess_39 (by decide) ?_
        refine wp_callVI (a := 0) (d1 := 1) (As := [.int 5]) (st := []) dX10_refusedGuess_40 rfl cm_X10_finds m_2_174 (by decide) rfl (Nat.le_of_ble_eq_true rfl) rfl h ?_
        intro r16 M15 h
        exact wp_iret (ty := .int) dX10_refusedGuess_43 rfl rfl h
    · replace h := h.2 c6
      refine wp_iload_n dX10_refusedGuess_23 rfl rfl ?_
      exact wp_iret (ty := .int) dX10_refusedGuess_24 rfl rfl h
  · replace h := h.1 c3
    refine wp_iconst (v := (-1 : Int32)) dX10_refusedGuess_11 (by decide) ?_
    exact wp_iret (ty := .int) dX10_refusedGuess_12 rfl rfl h
abbrev P_X10_greatestChange_18 (G : Glob) (x1 : Int32) (x2 : Int32) (x3 : Int32) (x4 : Int32) (x5 : Int32) (M : Mem) (Q : Option Value → Mem → Prop) : Prop := Wp G 2 Y_X10_greatestChange 18 [some (.ref (ad G 0)), some (.int x1), some (.int x2), some (.int x3), some (.int x4), some (.int x5), none] [] M Q
set_option maxRecDepth 20000 in
theorem v_X10_greatestChange_18 {G : Glob} {x1 : Int32} {x2 : Int32} {x3 : Int32} {x4 : Int32} {x5 : Int32} {M : Mem} {Q : Option Value → Mem → Prop}  (h : ((x5 < (M.1 12 2) → (((x1 &&& (1 <<< (x5 &&& 31))) = 0 → P_X10_greatestChange_18 G x1 x2 x3 x4 (x5 + 1) M Q) ∧ (¬ (x1 &&& (1 <<< (x5 &&& 31))) = 0 → (vp_in (x2 ^^^ (1 <<< (x5 &&& 31))) 256 ∧ (vp_in x2 256 ∧ (∀ y7 : Int32, y7 = (if (0 : Int32) ≤ ((M.1 25 (x2 ^^^ (1 <<< (x5 &&& 31))).toNatClampNeg) - (M.1 25 x2.toNatClampNeg)) then ((M.1 25 (x2 ^^^ (1 <<< (x5 &&& 31))).toNatClampNeg) - (M.1 25 x2.toNatClampNeg)) else (0 : Int32) - ((M.1 25 (x2 ^^^ (1 <<< (x5 &&& 31))).toNatClampNeg) - (M.1 25 x2.toNatClampNeg))) → ((x3 = (-9 : Int32) → P_X10_greatestChange_18 G x1 x2 x5 y7 (x5 + 1) M Q) ∧ (¬ x3 = (-9 : Int32) → ((x4 < y7 → P_X10_greatestChange_18 G x1 x2 x5 y7 (x5 + 1) M Q) ∧ (¬ x4 < y7 → P_X10_greatestChange_18 G x1 x2 x3 x4 (x5 + 1) M Q)))))))))) ∧ (¬ x5 < (M.1 12 2) → ((x3 = (-9 : Int32) → Q (some (.int x3)) M) ∧ (¬ x3 = (-9 : Int32) → (∀ M3 : Mem, M3 = upI M 0 12 x4 → Q (some (.int x3)) M3)))))) : P_X10_greatestChange_18 G x1 x2 x3 x4 x5 M Q := by
  refine wp_iload dX10_greatestChange_18 rfl ?_
  refine wp_aload_n dX10_greatestChange_20 rfl rfl ?_
  refine wp_getR (b := 12) dX10_greatestChange_21 rfl rfl fb_10_3 m_2_33 ?_
  refine wp_getI dX10_greatestChange_24 rfl fb_3_2 m_1_155 ?_
  refine wp_icmp_ge (tgt := 94) dX10_greatestChange_27 (by decide) (fun c1 => ?_) (fun c1 => ?_)
  · replace h := h.2 c1
    refine wp_iload_n dX10_greatestChange_94 rfl rfl ?_
    refine wp_bipush (v := (-9 : Int32)) dX10_greatestChange_95 (by decide) ?_
    refine wp_icmp_eq (tgt := 106) dX10_greatestChange_97 (by decide) (fun c2 => ?_) (fun c2 => ?_)
    · replace h := h.1 c2
      refine wp_iload_n dX10_greatestChange_106 rfl rfl ?_
      exact wp_iret (ty := .int) dX10_greatestChange_107 rfl rfl h
    · replace h := h.2 c2
      refine wp_aload_n dX10_greatestChange_100 rfl rfl ?_
      refine wp_iload dX10_greatestChange_101 rfl ?_
      refine wp_putI dX10_greatestChange_103 rfl fp_10_12 m_2_42 ?_
      refine wp_topM (fun M3 hM3 => ?_)
      replace h := h M3 hM3
      refine wp_iload_n dX10_greatestChange_106 rfl rfl ?_
      exact wp_iret (ty := .int) dX10_greatestChange_107 rfl rfl h
  · replace h := h.1 c1
    refine wp_iload_n dX10_greatestChange_30 rfl rfl ?_
    refine wp_iconst (v := 1) dX10_greatestChange_31 (by decide) ?_
    refine wp_iload dX10_greatestChange_32 rfl ?_
    refine wp_ishl dX10_greatestChange_34 ?_
    refine wp_iand dX10_greatestChange_35 ?_
    refine wp_if_eq (tgt := 88) dX10_greatestChange_36 (by decide) (fun c4 => ?_) (fun c4 => ?_)
    · replace h := h.1 c4
      refine wp_iinc (v := (x5 + 1)) (ls' := [some (.ref (ad G 0)), some (.int x1), some (.int x2), some (.int x3), some (.int x4), some (.int (x5 + 1)), none]) dX10_greatestChange_88 rfl rfl (by decide) rfl rfl ?_
      refine wp_goto (tgt := 18) dX10_greatestChange_91 (by decide) ?_
      exact h
    · replace h := h.2 c4
      refine wp_aload_n dX10_greatestChange_39 rfl rfl ?_
      refine wp_getR (b := 23) dX10_greatestChange_40 rfl rfl fb_10_5 m_2_35 ?_
      refine wp_getR (b := 25) dX10_greatestChange_43 rfl rfl fb_6_1 m_1_180 ?_
      refine wp_iload_n dX10_greatestChange_46 rfl rfl ?_
      refine wp_iconst (v := 1) dX10_greatestChange_47 (by decide) ?_
      refine wp_iload dX10_greatestChange_48 rfl ?_
      refine wp_ishl dX10_greatestChange_50 ?_
      refine wp_ixor dX10_greatestChange_51 ?_
      obtain ⟨b5, h⟩ := h
      refine wp_iald (n := 256) dX10_greatestChange_52 rfl rfl b5 ?_
      refine wp_aload_n dX10_greatestChange_53 rfl rfl ?_
      refine wp_getR (b := 23) dX10_greatestChange_54 rfl rfl fb_10_5 m_2_35 ?_
      refine wp_getR (b := 25) dX10_greatestChange_57 rfl rfl fb_6_1 m_1_180 ?_
      refine wp_iload_n dX10_greatestChange_60 rfl rfl ?_
      obtain ⟨b6, h⟩ := h
      refine wp_iald (n := 256) dX10_greatestChange_61 rfl rfl b6 ?_
      refine wp_isub dX10_greatestChange_62 ?_
      refine wp_abs m_4_144 (by decide) mw_abs (Nat.le_of_ble_eq_true rfl) dX10_greatestChange_63 ?_
      refine wp_topI (fun y7 hy7 => ?_)
      replace h := h y7 hy7
      refine wp_istore (ls' := [some (.ref (ad G 0)), some (.int x1), some (.int x2), some (.int x3), some (.int x4), some (.int x5), some (.int y7)]) dX10_greatestChange_66 (by decide) rfl rfl ?_
      refine wp_iload_n dX10_greatestChange_68 rfl rfl ?_
      refine wp_bipush (v := (-9 : Int32)) dX10_greatestChange_69 (by decide) ?_
      refine wp_icmp_eq (tgt := 81) dX10_greatestChange_71 (by decide) (fun c8 => ?_) (fun c8 => ?_)
      · replace h := h.1 c8
        refine wp_iload dX10_greatestChange_81 rfl ?_
        refine wp_istore_n (ls' := [some (.ref (ad G 0)), some (.int x1), some (.int x2), some (.int x5), some (.int x4), some (.int x5), some (.int y7)]) dX10_greatestChange_83 rfl (by decide) rfl rfl ?_
        refine wp_iload dX10_greatestChange_84 rfl ?_
        refine wp_istore (ls' := [some (.ref (ad G 0)), some (.int x1), some (.int x2), some (.int x5), some (.int y7), some (.int x5), some (.int y7)]) dX10_greatestChange_86 (by decide) rfl rfl ?_
        refine wp_iinc (v := (x5 + 1)) (ls' := [some (.ref (ad G 0)), some (.int x1), some (.int x2), some (.int x5), some (.int y7), some (.int (x5 + 1)), some (.int y7)]) dX10_greatestChange_88 rfl rfl (by decide) rfl rfl ?_
        refine wp_goto (tgt := 18) dX10_greatestChange_91 (by decide) ?_
        exact wp_mask [true, true, true, true, true, true, false] rfl h
      · replace h := h.2 c8
        refine wp_iload dX10_greatestChange_74 rfl ?_
        refine wp_iload dX10_greatestChange_76 rfl ?_
        refine wp_icmp_le (tgt := 88) dX10_greatestChange_78 (by decide) (fun c9 => ?_) (fun c9 => ?_)
        · replace h := h.2 c9
          refine wp_iinc (v := (x5 + 1)) (ls' := [some (.ref (ad G 0)), some (.int x1), some (.int x2), some (.int x3), some (.int x4), some (.int (x5 + 1)), some (.int y7)]) dX10_greatestChange_88 rfl rfl (by decide) rfl rfl ?_
          refine wp_goto (tgt := 18) dX10_greatestChange_91 (by decide) ?_
          exact wp_mask [true, true, true, true, true, true, false] rfl h
        · replace h := h.1 c9
          refine wp_iload dX10_greatestChange_81 rfl ?_
          refine wp_istore_n (ls' := [some (.ref (ad G 0)), some (.int x1), some (.int x2), some (.int x5), some (.int x4), some (.int x5), some (.int y7)]) dX10_greatestChange_83 rfl (by decide) rfl rfl ?_
          refine wp_iload dX10_greatestChange_84 rfl ?_
          refine wp_istore (ls' := [some (.ref (ad G 0)), some (.int x1), some (.int x2), some (.int x5), some (.int y7), some (.int x5), some (.int y7)]) dX10_greatestChange_86 (by decide) rfl rfl ?_
          refine wp_iinc (v := (x5 + 1)) (ls' := [some (.ref (ad G 0)), some (.int x1), some (.int x2), some (.int x5), some (.int y7), some (.int (x5 + 1)), some (.int y7)]) dX10_greatestChange_88 rfl rfl (by decide) rfl rfl ?_
          refine wp_goto (tgt := 18) dX10_greatestChange_91 (by decide) ?_
          exact wp_mask [true, true, true, true, true, true, false] rfl h
abbrev C_X10_greatestChange (G : Glob) (x1 : Int32) (M : Mem) (Q : Option Value → Mem → Prop) : Prop := WpM G 2 Y_X10_greatestChange [.ref (ad G 0), .int x1] M Q
set_option maxRecDepth 20000 in
theorem v_X10_greatestChange {G : Glob} {x1 : Int32} {M : Mem} {Q : Option Value → Mem → Prop}  (h : (WpM G 1 Y_X3_setOf [.ref (ad G 12), .int 0] M (RI (fun r2 M1 => P_X10_greatestChange_18 G x1 r2 (-9 : Int32) 0 0 M1 Q)))) : C_X10_greatestChange G x1 M Q := by
  refine wp_enter (ls0 := [some (.ref (ad G 0)), some (.int x1), none, none, none, none, none]) (by decide +kernel) (Nat.le_of_ble_eq_true rfl) rfl ?_
  refine wp_aload_n dX10_greatestChange_0 rfl rfl ?_
  refine wp_getR (b := 12) dX10_greatestChange_1 rfl rfl fb_10_3 m_2_33 ?_
  refine wp_iconst (v := 0) dX10_greatestChange_4 (by decide) ?_
  refine wp_callVI (a := 12) (d1 := 1) (As := [.int 0]) (st := []) dX10_greatestChange_5 rfl cm_X3_setOf m_2_237 (by decide) rfl (Nat.le_of_ble_eq_true rfl) rfl h ?_
  intro r2 M1 h
  refine wp_istore_n (ls' := [some (.ref (ad G 0)), some (.int x1), some (.int r2), none, none, none, none]) dX10_greatestChange_8 rfl (by decide) rfl rfl ?_
  refine wp_bipush (v := (-9 : Int32)) dX10_greatestChange_9 (by decide) ?_
  refine wp_istore_n (ls' := [some (.ref (ad G 0)), some (.int x1), some (.int r2), some (.int (-9 : Int32)), none, none, none]) dX10_greatestChange_11 rfl (by decide) rfl rfl ?_
  refine wp_iconst (v := 0) dX10_greatestChange_12 (by decide) ?_
  refine wp_istore (ls' := [some (.ref (ad G 0)), some (.int x1), some (.int r2), some (.int (-9 : Int32)), some (.int 0), none, none]) dX10_greatestChange_13 (by decide) rfl rfl ?_
  refine wp_iconst (v := 0) dX10_greatestChange_15 (by decide) ?_
  refine wp_istore (ls' := [some (.ref (ad G 0)), some (.int x1), some (.int r2), some (.int (-9 : Int32)), some (.int 0), some (.int 0), none]) dX10_greatestChange_16 (by decide) rfl rfl ?_
  exact h
abbrev P_X10_howManyKept_4 (G : Glob) (x1 : Int32) (x2 : Int32) (M : Mem) (Q : Option Value → Mem → Prop) : Prop := Wp G 1 Y_X10_howManyKept 4 [some (.ref (ad G 0)), some (.int x1), some (.int x2)] [] M Q
set_option maxRecDepth 20000 in
theorem v_X10_howManyKept_4 {G : Glob} {x1 : Int32} {x2 : Int32} {M : Mem} {Q : Option Value → Mem → Prop}  (h : ((x2 < 3 → (vp_in x2 3 ∧ (((M.1 (17 + x2.toNatClampNeg) 1) = (-1 : Int32) → P_X10_howManyKept_4 G x1 (x2 + 1) M Q) ∧ (¬ (M.1 (17 + x2.toNatClampNeg) 1) = (-1 : Int32) → P_X10_howManyKept_4 G (x1 + 1) (x2 + 1) M Q)))) ∧ (¬ x2 < 3 → Q (some (.int x1)) M))) : P_X10_howManyKept_4 G x1 x2 M Q := by
  refine wp_iload_n dX10_howManyKept_4 rfl rfl ?_
  refine wp_iconst (v := 3) dX10_howManyKept_5 (by decide) ?_
  refine wp_icmp_ge (tgt := 31) dX10_howManyKept_6 (by decide) (fun c1 => ?_) (fun c1 => ?_)
  · replace h := h.2 c1
    refine wp_iload_n dX10_howManyKept_31 rfl rfl ?_
    exact wp_iret (ty := .int) dX10_howManyKept_32 rfl rfl h
  · replace h := h.1 c1
    refine wp_aload_n dX10_howManyKept_9 rfl rfl ?_
    refine wp_getR (b := 16) dX10_howManyKept_10 rfl rfl fb_10_4 m_2_34 ?_
    refine wp_iload_n dX10_howManyKept_13 rfl rfl ?_
    obtain ⟨b2, h⟩ := h
    refine wp_aald (b := (17 + x2.toNatClampNeg)) (n := 3) dX10_howManyKept_14 rfl (by decide) rfl b2 rfl ?_
    have kb2 : kd (17 + x2.toNatClampNeg) = 2 := (kda_22 (a := 16) rfl (vp_lt b2))
    refine wp_getI dX10_howManyKept_15 kb2 fb_2_1 m_1_95 ?_
    refine wp_iconst (v := (-1 : Int32)) dX10_howManyKept_18 (by decide) ?_
    refine wp_icmp_eq (tgt := 25) dX10_howManyKept_19 (by decide) (fun c3 => ?_) (fun c3 => ?_)
    · replace h := h.1 c3
      refine wp_iinc (v := (x2 + 1)) (ls' := [some (.ref (ad G 0)), some (.int x1), some (.int (x2 + 1))]) dX10_howManyKept_25 rfl rfl (by decide) rfl rfl ?_
      refine wp_goto (tgt := 4) dX10_howManyKept_28 (by decide) ?_
      exact h
    · replace h := h.2 c3
      refine wp_iinc (v := (x1 + 1)) (ls' := [some (.ref (ad G 0)), some (.int (x1 + 1)), some (.int x2)]) dX10_howManyKept_22 rfl rfl (by decide) rfl rfl ?_
      refine wp_iinc (v := (x2 + 1)) (ls' := [some (.ref (ad G 0)), some (.int (x1 + 1)), some (.int (x2 + 1))]) dX10_howManyKept_25 rfl rfl (by decide) rfl rfl ?_
      refine wp_goto (tgt := 4) dX10_howManyKept_28 (by decide) ?_
      exact h
abbrev C_X10_howManyKept (G : Glob)  (M : Mem) (Q : Option Value → Mem → Prop) : Prop := WpM G 1 Y_X10_howManyKept [.ref (ad G 0)] M Q
set_option maxRecDepth 20000 in
theorem v_X10_howManyKept {G : Glob} {M : Mem} {Q : Option Value → Mem → Prop}  (h : P_X10_howManyKept_4 G 0 0 M Q) : C_X10_howManyKept G  M Q := by
  refine wp_enter (ls0 := [some (.ref (ad G 0)), none, none]) (by decide +kernel) (Nat.le_of_ble_eq_true rfl) rfl ?_
  refine wp_iconst (v := 0) dX10_howManyKept_0 (by decide) ?_
  refine wp_istore_n (ls' := [some (.ref (ad G 0)), some (.int 0), none]) dX10_howManyKept_1 rfl (by decide) rfl rfl ?_
  refine wp_iconst (v := 0) dX10_howManyKept_2 (by decide) ?_
  refine wp_istore_n (ls' := [some (.ref (ad G 0)), some (.int 0), some (.int 0)]) dX10_howManyKept_3 rfl (by decide) rfl rfl ?_
  exact h
abbrev C_X10_isChance (G : Glob) (x0 : Int32) (M : Mem) (Q : Option Value → Mem → Prop) : Prop := WpM G 1 Y_X10_isChance [.int x0] M Q
set_option maxRecDepth 20000 in
theorem v_X10_isChance {G : Glob} {x0 : Int32} {M : Mem} {Q : Option Value → Mem → Prop}  (h : ((x0 < 0 → Q (some (.int 0)) M) ∧ (¬ x0 < 0 → (((12 : Int32) < x0 → Q (some (.int 0)) M) ∧ (¬ (12 : Int32) < x0 → Q (some (.int 1)) M))))) : C_X10_isChance G x0 M Q := by
  refine wp_enter (ls0 := [some (.int x0)]) (by decide +kernel) (Nat.le_of_ble_eq_true rfl) rfl ?_
  refine wp_iload_n dX10_isChance_0 rfl rfl ?_
  refine wp_if_lt (tgt := 14) dX10_isChance_1 (by decide) (fun c1 => ?_) (fun c1 => ?_)
  · replace h := h.1 c1
    refine wp_iconst (v := 0) dX10_isChance_14 (by decide) ?_
    exact wp_iret (ty := .boolean) dX10_isChance_15 rfl rfl h
  · replace h := h.2 c1
    refine wp_iload_n dX10_isChance_4 rfl rfl ?_
    refine wp_bipush (v := 12) dX10_isChance_5 (by decide) ?_
    refine wp_icmp_gt (tgt := 14) dX10_isChance_7 (by decide) (fun c2 => ?_) (fun c2 => ?_)
    · replace h := h.1 c2
      refine wp_iconst (v := 0) dX10_isChance_14 (by decide) ?_
      exact wp_iret (ty := .boolean) dX10_isChance_15 rfl rfl h
    · replace h := h.2 c2
      refine wp_iconst (v := 1) dX10_isChance_10 (by decide) ?_
      refine wp_goto (tgt := 15) dX10_isChance_11 (by decide) ?_
      exact wp_iret (ty := .boolean) dX10_isChance_15 rfl rfl h
