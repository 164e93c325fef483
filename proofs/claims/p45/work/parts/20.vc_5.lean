abbrev P_X5_isWellTold_3 (G : Glob) (x2 : Int32) (x4 : Int32) (x5 : Int32) (M : Mem) (Q : Option Value → Mem → Prop) : Prop := Wp G 5 Y_X5_isWellTold 3 [none, some (.ref (ad G 12)), some (.int x2), some (.ref (ad G 1)), some (.int x4), some (.int x5), none, none] [] M Q
set_option maxRecDepth 20000 in
theorem v_X5_isWellTold_3 {G : Glob} {x2 : Int32} {x4 : Int32} {x5 : Int32} {M : Mem} {Q : Option Value → Mem → Prop}  (h : (WpM G 2 Y_X9_sizeOf [.ref (ad G 1), .int x4] M (RI (fun r2 M1 => (((x5 + 1) < r2 → (WpM G 4 Y_X9_read [.ref (ad G 1), .int x4, .int x5] M1 (RI (fun r5 M4 => (WpM G 4 Y_X9_read [.ref (ad G 1), .int x4, .int (x5 + 1)] M4 (RI (fun r7 M6 => (WpM G 1 Y_X3_has [.ref (ad G 12), .int r5] M6 (RI (fun r9 M8 => ((r9 = 0 → Q (some (.int 0)) M8) ∧ (¬ r9 = 0 → ((r5 = x2 → Q (some (.int 0)) M8) ∧ (¬ r5 = x2 → ((r7 < 0 → ((r7 = (-9 : Int32) → P_X5_isWellTold_3 G x2 x4 (x5 + 2) M8 Q) ∧ (¬ r7 = (-9 : Int32) → Q (some (.int 0)) M8))) ∧ (¬ r7 < 0 → P_X5_isWellTold_3 G x2 x4 (x5 + 2) M8 Q)))))))))))))))) ∧ (¬ (x5 + 1) < r2 → Q (some (.int 1)) M1)))))) : P_X5_isWellTold_3 G x2 x4 x5 M Q := by
  refine wp_iload dX5_isWellTold_3 rfl ?_
  refine wp_iconst (v := 1) dX5_isWellTold_5 (by decide) ?_
  refine wp_iadd dX5_isWellTold_6 ?_
  refine wp_aload_n dX5_isWellTold_7 rfl rfl ?_
  refine wp_iload dX5_isWellTold_8 rfl ?_
  refine wp_callVI (a := 1) (d1 := 2) (As := [.int x4]) (st := [.int (x5 + 1)]) dX5_isWellTold_10 rfl cm_X9_sizeOf m_4_34 (by decide) rfl (Nat.le_of_ble_eq_true rfl) rfl h ?_
  intro r2 M1 h
  refine wp_icmp_ge (tgt := 73) dX5_isWellTold_13 (by decide) (fun c3 => ?_) (fun c3 => ?_)
  · replace h := h.2 c3
    refine wp_iconst (v := 1) dX5_isWellTold_73 (by decide) ?_
    exact wp_iret (ty := .boolean) dX5_isWellTold_74 rfl rfl h
  · replace h := h.1 c3
    refine wp_aload_n dX5_isWellTold_16 rfl rfl ?_
    refine wp_iload dX5_isWellTold_17 rfl ?_
    refine wp_iload dX5_isWellTold_19 rfl ?_
    refine wp_callVI (a := 1) (d1 := 4) (As := [.int x4, .int x5]) (st := []) dX5_isWellTold_21 rfl cm_X9_read m_4_35 (by decide) rfl (Nat.le_of_ble_eq_true rfl) rfl h ?_
    intro r5 M4 h
    refine wp_istore (ls' := [none, some (.ref (ad G 12)), some (.int x2), some (.ref (ad G 1)), some (.int x4), some (.int x5), some (.int r5), none]) dX5_isWellTold_24 (by decide) rfl rfl ?_
    refine wp_aload_n dX5_isWellTold_26 rfl rfl ?_
    refine wp_iload dX5_isWellTold_27 rfl ?_
    refine wp_iload dX5_isWellTold_29 rfl ?_
    refine wp_iconst (v := 1) dX5_isWellTold_31 (by decide) ?_
    refine wp_iadd dX5_isWellTold_32 ?_
    refine wp_callVI (a := 1) (d1 := 4) (As := [.int x4, .int (x5 + 1)]) (st := []) dX5_isWellTold_33 rfl cm_X9_read m_4_35 (by decide) rfl (Nat.le_of_ble_eq_true rfl) rfl h ?_
    intro r7 M6 h
    refine wp_istore (ls' := [none, some (.ref (ad G 12)), some (.int x2), some (.ref (ad G 1)), some (.int x4), some (.int x5), some (.int r5), some (.int r7)]) dX5_isWellTold_36 (by decide) rfl rfl ?_
    refine wp_aload_n dX5_isWellTold_38 rfl rfl ?_
    refine wp_iload dX5_isWellTold_39 rfl ?_
    refine wp_callVI (a := 12) (d1 := 1) (As := [.int r5]) (st := []) dX5_isWellTold_41 rfl cm_X3_has m_4_36 (by decide) rfl (Nat.le_of_ble_eq_true rfl) rfl h ?_
    intro r9 M8 h
    refine wp_if_eq (tgt := 65) dX5_isWellTold_44 (by decide) (fun c10 => ?_) (fun c10 => ?_)
    · replace h := h.1 c10
      refine wp_iconst (v := 0) dX5_isWellTold_65 (by decide) ?_
      exact wp_iret (ty := .boolean) dX5_isWellTold_66 rfl rfl h
    · replace h := h.2 c10
      refine wp_iload dX5_isWellTold_47 rfl ?_
      refine wp_iload_n dX5_isWellTold_49 rfl rfl ?_
      refine wp_icmp_eq (tgt := 65) dX5_isWellTold_50 (by decide) (fun c11 => ?_) (fun c11 => ?_)
      · replace h := h.1 c11
        refine wp_iconst (v := 0) dX5_isWellTold_65 (by decide) ?_
        exact wp_iret (ty := .boolean) dX5_isWellTold_66 rfl rfl h
      · replace h := h.2 c11
        refine wp_iload dX5_isWellTold_53 rfl ?_
        refine wp_if_ge (tgt := 67) dX5_isWellTold_55 (by decide) (fun c12 => ?_) (fun c12 => ?_)
        · replace h := h.2 c12
          refine wp_iinc (v := (x5 + 2)) (ls' := [none, some (.ref (ad G 12)), some (.int x2), some (.ref (ad G 1)), some (.int x4), some (.int (x5 + 2)), some (.int r5), some (.int r7)]) dX5_isWellTold_67 rfl rfl (by decide) rfl rfl ?_
          refine wp_goto (tgt := 3) dX5_isWellTold_70 (by decide) ?_
          exact wp_mask [false, true, true, true, true, true, false, false] rfl h
        · replace h := h.1 c12
          refine wp_iload dX5_isWellTold_58 rfl ?_
          refine wp_bipush (v := (-9 : Int32)) dX5_isWellTold_60 (by decide) ?_
          refine wp_icmp_eq (tgt := 67) dX5_isWellTold_62 (by decide) (fun c13 => ?_) (fun c13 => ?_)
          · replace h := h.1 c13
            refine wp_iinc (v := (x5 + 2)) (ls' := [none, some (.ref (ad G 12)), some (.int x2), some (.ref (ad G 1)), some (.int x4), some (.int (x5 + 2)), some (.int r5), some (.int r7)]) dX5_isWellTold_67 rfl rfl (by decide) rfl rfl ?_
            refine wp_goto (tgt := 3) dX5_isWellTold_70 (by decide) ?_
            exact wp_mask [false, true, true, true, true, true, false, false] rfl h
          · replace h := h.2 c13
            refine wp_iconst (v := 0) dX5_isWellTold_65 (by decide) ?_
            exact wp_iret (ty := .boolean) dX5_isWellTold_66 rfl rfl h
abbrev C_X5_isWellTold (G : Glob) (x2 : Int32) (x4 : Int32) (M : Mem) (Q : Option Value → Mem → Prop) : Prop := WpM G 5 Y_X5_isWellTold [.ref (ad G 36), .ref (ad G 12), .int x2, .ref (ad G 1), .int x4] M Q
set_option maxRecDepth 20000 in
theorem v_X5_isWellTold {G : Glob} {x2 : Int32} {x4 : Int32} {M : Mem} {Q : Option Value → Mem → Prop}  (h : P_X5_isWellTold_3 G x2 x4 0 M Q) : C_X5_isWellTold G x2 x4 M Q := by
  refine wp_enter (ls0 := [some (.ref (ad G 36)), some (.ref (ad G 12)), some (.int x2), some (.ref (ad G 1)), some (.int x4), none, none, none]) (by decide +kernel) (Nat.le_of_ble_eq_true rfl) rfl ?_
  refine wp_iconst (v := 0) dX5_isWellTold_0 (by decide) ?_
  refine wp_istore (ls' := [some (.ref (ad G 36)), some (.ref (ad G 12)), some (.int x2), some (.ref (ad G 1)), some (.int x4), some (.int 0), none, none]) dX5_isWellTold_1 (by decide) rfl rfl ?_
  exact wp_mask [false, true, true, true, true, true, false, false] rfl h
abbrev P_X5_agrees_3 (G : Glob) (x3 : Int32) (x4 : Int32) (M : Mem) (Q : Option Value → Mem → Prop) : Prop := Wp G 5 Y_X5_agrees 3 [some (.ref (ad G 36)), some (.ref (ad G 12)), some (.ref (ad G 1)), some (.int x3), some (.int x4), none] [] M Q
set_option maxRecDepth 20000 in
theorem v_X5_agrees_3 {G : Glob} {x3 : Int32} {x4 : Int32} {M : Mem} {Q : Option Value → Mem → Prop}  (h : (WpM G 2 Y_X9_sizeOf [.ref (ad G 1), .int x3] M (RI (fun r2 M1 => (((x4 + 1) < r2 → (WpM G 4 Y_X9_read [.ref (ad G 1), .int x3, .int x4] M1 (RI (fun r5 M4 => (WpM G 1 Y_X3_has [.ref (ad G 12), .int r5] M4 (RI (fun r7 M6 => ((r7 = 0 → Q (some (.int 0)) M6) ∧ (¬ r7 = 0 → (vp_in r5 8 ∧ (WpM G 4 Y_X4_goodWith [.ref (ad G 37), .ref (ad G (55 + r5.toNatClampNeg))] M6 (RI (fun r11 M10 => (WpM G 4 Y_X9_read [.ref (ad G 1), .int x3, .int (x4 + 1)] M10 (RI (fun r13 M12 => ((r11 = r13 → P_X5_agrees_3 G x3 (x4 + 2) M12 Q) ∧ (¬ r11 = r13 → Q (some (.int 0)) M12)))))))))))))))))) ∧ (¬ (x4 + 1) < r2 → Q (some (.int 1)) M1)))))) : P_X5_agrees_3 G x3 x4 M Q := by
  refine wp_iload dX5_agrees_3 rfl ?_
  refine wp_iconst (v := 1) dX5_agrees_5 (by decide) ?_
  refine wp_iadd dX5_agrees_6 ?_
  refine wp_aload_n dX5_agrees_7 rfl rfl ?_
  refine wp_iload_n dX5_agrees_8 rfl rfl ?_
  refine wp_callVI (a := 1) (d1 := 2) (As := [.int x3]) (st := [.int (x4 + 1)]) dX5_agrees_9 rfl cm_X9_sizeOf m_4_34 (by decide) rfl (Nat.le_of_ble_eq_true rfl) rfl h ?_
  intro r2 M1 h
  refine wp_icmp_ge (tgt := 69) dX5_agrees_12 (by decide) (fun c3 => ?_) (fun c3 => ?_)
  · replace h := h.2 c3
    refine wp_iconst (v := 1) dX5_agrees_69 (by decide) ?_
    exact wp_iret (ty := .boolean) dX5_agrees_70 rfl rfl h
  · replace h := h.1 c3
    refine wp_aload_n dX5_agrees_15 rfl rfl ?_
    refine wp_iload_n dX5_agrees_16 rfl rfl ?_
    refine wp_iload dX5_agrees_17 rfl ?_
    refine wp_callVI (a := 1) (d1 := 4) (As := [.int x3, .int x4]) (st := []) dX5_agrees_19 rfl cm_X9_read m_4_35 (by decide) rfl (Nat.le_of_ble_eq_true rfl) rfl h ?_
    intro r5 M4 h
    refine wp_istore (ls' := [some (.ref (ad G 36)), some (.ref (ad G 12)), some (.ref (ad G 1)), some (.int x3), some (.int x4), some (.int r5)]) dX5_agrees_22 (by decide) rfl rfl ?_
    refine wp_aload_n dX5_agrees_24 rfl rfl ?_
    refine wp_iload dX5_agrees_25 rfl ?_
    refine wp_callVI (a := 12) (d1 := 1) (As := [.int r5]) (st := []) dX5_agrees_27 rfl cm_X3_has m_4_36 (by decide) rfl (Nat.le_of_ble_eq_true rfl) rfl h ?_
    intro r7 M6 h
    refine wp_if_ne (tgt := 35) dX5_agrees_30 (by decide) (fun c8 => ?_) (fun c8 => ?_)
    · replace h := h.2 c8
      refine wp_aload_n dX5_agrees_35 rfl rfl ?_
      refine wp_getR (b := 37) dX5_agrees_36 rfl rfl fb_5_0 m_1_232 ?_
      refine wp_aload_n dX5_agrees_39 rfl rfl ?_
      refine wp_getR (b := 13) dX5_agrees_40 rfl rfl fb_3_0 m_1_146 ?_
      refine wp_iload dX5_agrees_43 rfl ?_
      obtain ⟨b9, h⟩ := h
      refine wp_aald (b := (55 + r5.toNatClampNeg)) (n := 8) dX5_agrees_45 rfl (by decide) rfl b9 rfl ?_
      have kb9 : kd (55 + r5.toNatClampNeg) = 4 := (kda_23 (a := 13) rfl (vp_lt b9))
      refine wp_callVI (a := 37) (d1 := 4) (As := [.ref (ad G (55 + r5.toNatClampNeg))]) (st := []) dX5_agrees_46 rfl cm_X4_goodWith m_3_205 (by decide) rfl (Nat.le_of_ble_eq_true rfl) rfl h ?_
      intro r11 M10 h
      refine wp_aload_n dX5_agrees_49 rfl rfl ?_
      refine wp_iload_n dX5_agrees_50 rfl rfl ?_
      refine wp_iload dX5_agrees_51 rfl ?_
      refine wp_iconst (v := 1) dX5_agrees_53 (by decide) ?_
      refine wp_iadd dX5_agrees_54 ?_
      refine wp_callVI (a := 1) (d1 := 4) (As := [.int x3, .int (x4 + 1)]) (st := [.int r11]) dX5_agrees_55 rfl cm_X9_read m_4_35 (by decide) rfl (Nat.le_of_ble_eq_true rfl) rfl h ?_
      intro r13 M12 h
      refine wp_icmp_eq (tgt := 63) dX5_agrees_58 (by decide) (fun c14 => ?_) (fun c14 => ?_)
      · replace h := h.1 c14
        refine wp_iinc (v := (x4 + 2)) (ls' := [some (.ref (ad G 36)), some (.ref (ad G 12)), some (.ref (ad G 1)), some (.int x3), some (.int (x4 + 2)), some (.int r5)]) dX5_agrees_63 rfl rfl (by decide) rfl rfl ?_
        refine wp_goto (tgt := 3) dX5_agrees_66 (by decide) ?_
        exact wp_mask [true, true, true, true, true, false] rfl h
      · replace h := h.2 c14
        refine wp_iconst (v := 0) dX5_agrees_61 (by decide) ?_
        exact wp_iret (ty := .boolean) dX5_agrees_62 rfl rfl h
    · replace h := h.1 c8
      refine wp_iconst (v := 0) dX5_agrees_33 (by decide) ?_
      exact wp_iret (ty := .boolean) dX5_agrees_34 rfl rfl h
abbrev C_X5_agrees (G : Glob) (x3 : Int32) (M : Mem) (Q : Option Value → Mem → Prop) : Prop := WpM G 5 Y_X5_agrees [.ref (ad G 36), .ref (ad G 12), .ref (ad G 1), .int x3] M Q
set_option maxRecDepth 20000 in
theorem v_X5_agrees {G : Glob} {x3 : Int32} {M : Mem} {Q : Option Value → Mem → Prop}  (h : P_X5_agrees_3 G x3 0 M Q) : C_X5_agrees G x3 M Q := by
  refine wp_enter (ls0 := [some (.ref (ad G 36)), some (.ref (ad G 12)), some (.ref (ad G 1)), some (.int x3), none, none]) (by decide +kernel) (Nat.le_of_ble_eq_true rfl) rfl ?_
  refine wp_iconst (v := 0) dX5_agrees_0 (by decide) ?_
  refine wp_istore (ls' := [some (.ref (ad G 36)), some (.ref (ad G 12)), some (.ref (ad G 1)), some (.int x3), some (.int 0), none]) dX5_agrees_1 (by decide) rfl rfl ?_
  exact h
abbrev P_X5_sortsLeft_19 (G : Glob) (x4 : Int32) (x5 : Int32) (x6 : Int32) (M : Mem) (Q : Option Value → Mem → Prop) : Prop := Wp G 6 Y_X5_sortsLeft 19 [some (.ref (ad G 36)), some (.ref (ad G 12)), none, some (.ref (ad G 1)), some (.int x4), some (.int x5), some (.int x6)] [] M Q
set_option maxRecDepth 20000 in
theorem v_X5_sortsLeft_19 {G : Glob} {x4 : Int32} {x5 : Int32} {x6 : Int32} {M : Mem} {Q : Option Value → Mem → Prop}  (h : ((x6 < 10 → (∀ M2 : Mem, M2 = upI M 37 1 x6 → (WpM G 5 Y_X5_agrees [.ref (ad G 36), .ref (ad G 12), .ref (ad G 1), .int x4] M2 (RI (fun r4 M3 => ((r4 = 0 → P_X5_sortsLeft_19 G x4 x5 (x6 + 1) M3 Q) ∧ (¬ r4 = 0 → (∀ y6 : Int32, y6 = (x5 ||| (1 <<< (x6 &&& 31))) → P_X5_sortsLeft_19 G x4 y6 (x6 + 1) M3 Q)))))))) ∧ (¬ x6 < 10 → Q (some (.int x5)) M))) : P_X5_sortsLeft_19 G x4 x5 x6 M Q := by
  refine wp_iload dX5_sortsLeft_19 rfl ?_
  refine wp_bipush (v := 10) dX5_sortsLeft_21 (by decide) ?_
  refine wp_icmp_ge (tgt := 61) dX5_sortsLeft_23 (by decide) (fun c1 => ?_) (fun c1 => ?_)
  · replace h := h.2 c1
    refine wp_iload dX5_sortsLeft_61 rfl ?_
    exact wp_iret (ty := .int) dX5_sortsLeft_63 rfl rfl h
  · replace h := h.1 c1
    refine wp_aload_n dX5_sortsLeft_26 rfl rfl ?_
    refine wp_getR (b := 37) dX5_sortsLeft_27 rfl rfl fb_5_0 m_1_232 ?_
    refine wp_iload dX5_sortsLeft_30 rfl ?_
    refine wp_putI dX5_sortsLeft_32 rfl fp_4_1 m_1_115 ?_
    refine wp_topM (fun M2 hM2 => ?_)
    replace h := h M2 hM2
    refine wp_aload_n dX5_sortsLeft_35 rfl rfl ?_
    refine wp_aload_n dX5_sortsLeft_36 rfl rfl ?_
    refine wp_aload_n dX5_sortsLeft_37 rfl rfl ?_
    refine wp_iload dX5_sortsLeft_38 rfl ?_
    refine wp_callVI (a := 36) (d1 := 5) (As := [.ref (ad G 12), .ref (ad G 1), .int x4]) (st := []) dX5_sortsLeft_40 rfl cm_X5_agrees m_4_41 (by decide) rfl (Nat.le_of_ble_eq_true rfl) rfl h ?_
    intro r4 M3 h
    refine wp_if_eq (tgt := 55) dX5_sortsLeft_43 (by decide) (fun c5 => ?_) (fun c5 => ?_)
    · replace h := h.1 c5
      refine wp_iinc (v := (x6 + 1)) (ls' := [some (.ref (ad G 36)), some (.ref (ad G 12)), none, some (.ref (ad G 1)), some (.int x4), some (.int x5), some (.int (x6 + 1))]) dX5_sortsLeft_55 rfl rfl (by decide) rfl rfl ?_
      refine wp_goto (tgt := 19) dX5_sortsLeft_58 (by decide) ?_
      exact h
    · replace h := h.2 c5
      refine wp_iload dX5_sortsLeft_46 rfl ?_
      refine wp_iconst (v := 1) dX5_sortsLeft_48 (by decide) ?_
      refine wp_iload dX5_sortsLeft_49 rfl ?_
      refine wp_ishl dX5_sortsLeft_51 ?_
      refine wp_ior dX5_sortsLeft_52 ?_
      refine wp_topI (fun y6 hy6 => ?_)
      replace h := h y6 hy6
      refine wp_istore (ls' := [some (.ref (ad G 36)), some (.ref (ad G 12)), none, some (.ref (ad G 1)), some (.int x4), some (.int y6), some (.int x6)]) dX5_sortsLeft_53 (by decide) rfl rfl ?_
      refine wp_iinc (v := (x6 + 1)) (ls' := [some (.ref (ad G 36)), some (.ref (ad G 12)), none, some (.ref (ad G 1)), some (.int x4), some (.int y6), some (.int (x6 + 1))]) dX5_sortsLeft_55 rfl rfl (by decide) rfl rfl ?_
      refine wp_goto (tgt := 19) dX5_sortsLeft_58 (by decide) ?_
      exact h
abbrev C_X5_sortsLeft (G : Glob) (x2 : Int32) (x4 : Int32) (M : Mem) (Q : Option Value → Mem → Prop) : Prop := WpM G 6 Y_X5_sortsLeft [.ref (ad G 36), .ref (ad G 12), .int x2, .ref (ad G 1), .int x4] M Q
set_option maxRecDepth 20000 in
theorem v_X5_sortsLeft {G : Glob} {x2 : Int32} {x4 : Int32} {M : Mem} {Q : Option Value → Mem → Prop}  (h : (vp_in x2 8 ∧ (WpM G 1 Y_X4_becomeLike [.ref (ad G 37), .ref (ad G (55 + x2.toNatClampNeg))] M (RV (fun M2 => P_X5_sortsLeft_19 G x4 0 0 M2 Q))))) : C_X5_sortsLeft G x2 x4 M Q := by
  refine wp_enter (ls0 := [some (.ref (ad G 36)), some (.ref (ad G 12)), some (.int x2), some (.ref (ad G 1)), some (.int x4), none, none]) (by decide +kernel) (Nat.le_of_ble_eq_true rfl) rfl ?_
  refine wp_iconst (v := 0) dX5_sortsLeft_0 (by decide) ?_
  refine wp_istore (ls' := [some (.ref (ad G 36)), some (.ref (ad G 12)), some (.int x2), some (.ref (ad G 1)), some (.int x4), some (.int 0), none]) dX5_sortsLeft_1 (by decide) rfl rfl ?_
  refine wp_aload_n dX5_sortsLeft_3 rfl rfl ?_
  refine wp_getR (b := 37) dX5_sortsLeft_4 rfl rfl fb_5_0 m_1_232 ?_
  refine wp_aload_n dX5_sortsLeft_7 rfl rfl ?_
  refine wp_getR (b := 13) dX5_sortsLeft_8 rfl rfl fb_3_0 m_1_146 ?_
  refine wp_iload_n dX5_sortsLeft_11 rfl rfl ?_
  obtain ⟨b1, h⟩ := h
  refine wp_aald (b := (55 + x2.toNatClampNeg)) (n := 8) dX5_sortsLeft_12 rfl (by decide) rfl b1 rfl ?_
  have kb1 : kd (55 + x2.toNatClampNeg) = 4 := (kda_23 (a := 13) rfl (vp_lt b1))
  refine wp_callVV (a := 37) (d1 := 1) (As := [.ref (ad G (55 + x2.toNatClampNeg))]) (st := []) dX5_sortsLeft_13 rfl cm_X4_becomeLike m_3_200 (by decide) rfl (Nat.le_of_ble_eq_true rfl) rfl h ?_
  intro M2 h
  refine wp_iconst (v := 0) dX5_sortsLeft_16 (by decide) ?_
  refine wp_istore (ls' := [some (.ref (ad G 36)), some (.ref (ad G 12)), some (.int x2), some (.ref (ad G 1)), some (.int x4), some (.int 0), some (.int 0)]) dX5_sortsLeft_17 (by decide) rfl rfl ?_
  exact wp_mask [true, true, false, true, true, true, true] rfl h
abbrev P_X5_handsLeft_19 (G : Glob) (x4 : Int32) (x5 : Int32) (x6 : Int32) (M : Mem) (Q : Option Value → Mem → Prop) : Prop := Wp G 6 Y_X5_handsLeft 19 [some (.ref (ad G 36)), some (.ref (ad G 12)), none, some (.ref (ad G 1)), some (.int x4), some (.int x5), some (.int x6)] [] M Q
set_option maxRecDepth 20000 in
theorem v_X5_handsLeft_19 {G : Glob} {x4 : Int32} {x5 : Int32} {x6 : Int32} {M : Mem} {Q : Option Value → Mem → Prop}  (h : ((x6 < 2 → (∀ M2 : Mem, M2 = upI M 37 2 x6 → (WpM G 5 Y_X5_agrees [.ref (ad G 36), .ref (ad G 12), .ref (ad G 1), .int x4] M2 (RI (fun r4 M3 => ((r4 = 0 → P_X5_handsLeft_19 G x4 x5 (x6 + 1) M3 Q) ∧ (¬ r4 = 0 → (∀ y6 : Int32, y6 = (x5 ||| (1 <<< (x6 &&& 31))) → P_X5_handsLeft_19 G x4 y6 (x6 + 1) M3 Q)))))))) ∧ (¬ x6 < 2 → Q (some (.int x5)) M))) : P_X5_handsLeft_19 G x4 x5 x6 M Q := by
  refine wp_iload dX5_handsLeft_19 rfl ?_
  refine wp_iconst (v := 2) dX5_handsLeft_21 (by decide) ?_
  refine wp_icmp_ge (tgt := 60) dX5_handsLeft_22 (by decide) (fun c1 => ?_) (fun c1 => ?_)
  · replace h := h.2 c1
    refine wp_iload dX5_handsLeft_60 rfl ?_
    exact wp_iret (ty := .int) dX5_handsLeft_62 rfl rfl h
  · replace h := h.1 c1
    refine wp_aload_n dX5_handsLeft_25 rfl rfl ?_
    refine wp_getR (b := 37) dX5_handsLeft_26 rfl rfl fb_5_0 m_1_232 ?_
    refine wp_iload dX5_handsLeft_29 rfl ?_
    refine wp_putI dX5_handsLeft_31 rfl fp_4_2 m_1_119 ?_
    refine wp_topM (fun M2 hM2 => ?_)
    replace h := h M2 hM2
    refine wp_aload_n dX5_handsLeft_34 rfl rfl ?_
    refine wp_aload_n dX5_handsLeft_35 rfl rfl ?_
    refine wp_aload_n dX5_handsLeft_36 rfl rfl ?_
    refine wp_iload dX5_handsLeft_37 rfl ?_
    refine wp_callVI (a := 36) (d1 := 5) (As := [.ref (ad G 12), .ref (ad G 1), .int x4]) (st := []) dX5_handsLeft_39 rfl cm_X5_agrees m_4_41 (by decide) rfl (Nat.le_of_ble_eq_true rfl) rfl h ?_
    intro r4 M3 h
    refine wp_if_eq (tgt := 54) dX5_handsLeft_42 (by decide) (fun c5 => ?_) (fun c5 => ?_)
    · replace h := h.1 c5
      refine wp_iinc (v := (x6 + 1)) (ls' := [some (.ref (ad G 36)), some (.ref (ad G 12)), none, some (.ref (ad G 1)), some (.int x4), some (.int x5), some (.int (x6 + 1))]) dX5_handsLeft_54 rfl rfl (by decide) rfl rfl ?_
      refine wp_goto (tgt := 19) dX5_handsLeft_57 (by decide) ?_
      exact h
    · replace h := h.2 c5
      refine wp_iload dX5_handsLeft_45 rfl ?_
      refine wp_iconst (v := 1) dX5_handsLeft_47 (by decide) ?_
      refine wp_iload dX5_handsLeft_48 rfl ?_
      refine wp_ishl dX5_handsLeft_50 ?_
      refine wp_ior dX5_handsLeft_51 ?_
      refine wp_topI (fun y6 hy6 => ?_)
      replace h := h y6 hy6
      refine wp_istore (ls' := [some (.ref (ad G 36)), some (.ref (ad G 12)), none, some (.ref (ad G 1)), some (.int x4), some (.int y6), some (.int x6)]) dX5_handsLeft_52 (by decide) rfl rfl ?_
      refine wp_iinc (v := (x6 + 1)) (ls' := [some (.ref (ad G 36)), some (.ref (ad G 12)), none, some (.ref (ad G 1)), some (.int x4), some (.int y6), some (.int (x6 + 1))]) dX5_handsLeft_54 rfl rfl (by decide) rfl rfl ?_
      refine wp_goto (tgt := 19) dX5_handsLeft_57 (by decide) ?_
      exact h
abbrev C_X5_handsLeft (G : Glob) (x2 : Int32) (x4 : Int32) (M : Mem) (Q : Option Value → Mem → Prop) : Prop := WpM G 6 Y_X5_handsLeft [.ref (ad G 36), .ref (ad G 12), .int x2, .ref (ad G 1), .int x4] M Q
set_option maxRecDepth 20000 in
theorem v_X5_handsLeft {G : Glob} {x2 : Int32} {x4 : Int32} {M : Mem} {Q : Option Value → Mem → Prop}  (h : (vp_in x2 8 ∧ (WpM G 1 Y_X4_becomeLike [.ref (ad G 37), .ref (ad G (55 + x2.toNatClampNeg))] M (RV (fun M2 => P_X5_handsLeft_19 G x4 0 0 M2 Q))))) : C_X5_handsLeft G x2 x4 M Q := by
  refine wp_enter (ls0 := [some (.ref (ad G 36)), some (.ref (ad G 12)), some (.int x2), some (.ref (ad G 1)), some (.int x4), none, none]) (by decide +kernel) (Nat.le_of_ble_eq_true rfl) rfl ?_
  refine wp_iconst (v := 0) dX5_handsLeft_0 (by decide) ?_
  refine wp_istore (ls' := [some (.ref (ad G 36)), some (.ref (ad G 12)), some (.int x2), some (.ref (ad G 1)), some (.int x4), some (.int 0), none]) dX5_handsLeft_1 (by decide) rfl rfl ?_
  refine wp_aload_n dX5_handsLeft_3 rfl rfl ?_
  refine wp_getR (b := 37) dX5_handsLeft_4 rfl rfl fb_5_0 m_1_232 ?_
  refine wp_aload_n dX5_handsLeft_7 rfl rfl ?_
  refine wp_getR (b := 13) dX5_handsLeft_8 rfl rfl fb_3_0 m_1_146 ?_
  refine wp_iload_n dX5_handsLeft_11 rfl rfl ?_
  obtain ⟨b1, h⟩ := h
  refine wp_aald (b := (55 + x2.toNatClampNeg)) (n := 8) dX5_handsLeft_12 rfl (by decide) rfl b1 rfl ?_
  have kb1 : kd (55 + x2.toNatClampNeg) = 4 := (kda_23 (a := 13) rfl (vp_lt b1))
  refine wp_callVV (a := 37) (d1 := 1) (As := [.ref (ad G (55 + x2.toNatClampNeg))]) (st := []) dX5_handsLeft_13 rfl cm_X4_becomeLike m_3_200 (by decide) rfl (Nat.le_of_ble_eq_true rfl) rfl h ?_
  intro M2 h
  refine wp_iconst (v := 0) dX5_handsLeft_16 (by decide) ?_
  refine wp_istore (ls' := [some (.ref (ad G 36)), some (.ref (ad G 12)), some (.int x2), some (.ref (ad G 1)), some (.int x4), some (.int 0), some (.int 0)]) dX5_handsLeft_17 (by decide) rfl rfl ?_
  exact wp_mask [true, true, false, true, true, true, true] rfl h
abbrev P_X5_kindsLeft_19 (G : Glob) (x4 : Int32) (x5 : Int32) (x6 : Int32) (M : Mem) (Q : Option Value → Mem → Prop) : Prop := Wp G 6 Y_X5_kindsLeft 19 [some (.ref (ad G 36)), some (.ref (ad G 12)), none, some (.ref (ad G 1)), some (.int x4), some (.int x5), some (.int x6)] [] M Q
set_option maxRecDepth 20000 in
theorem v_X5_kindsLeft_19 {G : Glob} {x4 : Int32} {x5 : Int32} {x6 : Int32} {M : Mem} {Q : Option Value → Mem → Prop}  (h : ((x6 < 6 → (∀ M2 : Mem, M2 = upI M 37 0 x6 → (WpM G 5 Y_X5_agrees [.ref (ad G 36), .ref (ad G 12), .ref (ad G 1), .int x4] M2 (RI (fun r4 M3 => ((r4 = 0 → P_X5_kindsLeft_19 G x4 x5 (x6 + 1) M3 Q) ∧ (¬ r4 = 0 → (∀ y6 : Int32, y6 = (x5 ||| (1 <<< (x6 &&& 31))) → P_X5_kindsLeft_19 G x4 y6 (x6 + 1) M3 Q)))))))) ∧ (¬ x6 < 6 → Q (some (.int x5)) M))) : P_X5_kindsLeft_19 G x4 x5 x6 M Q := by
  refine wp_iload dX5_kindsLeft_19 rfl ?_
  refine wp_bipush (v := 6) dX5_kindsLeft_21 (by decide) ?_
  refine wp_icmp_ge (tgt := 61) dX5_kindsLeft_23 (by decide) (fun c1 => ?_) (fun c1 => ?_)
  · replace h := h.2 c1
    refine wp_iload dX5_kindsLeft_61 rfl ?_
    exact wp_iret (ty := .int) dX5_kindsLeft_63 rfl rfl h
  · replace h := h.1 c1
    refine wp_aload_n dX5_kindsLeft_26 rfl rfl ?_
    refine wp_getR (b := 37) dX5_kindsLeft_27 rfl rfl fb_5_0 m_1_232 ?_
    refine wp_iload dX5_kindsLeft_30 rfl ?_
    refine wp_putI dX5_kindsLeft_32 rfl fp_4_0 m_1_111 ?_
    refine wp_topM (fun M2 hM2 => ?_)
    replace h := h M2 hM2
    refine wp_aload_n dX5_kindsLeft_35 rfl rfl ?_
    refine wp_aload_n dX5_kindsLeft_36 rfl rfl ?_
    refine wp_aload_n dX5_kindsLeft_37 rfl rfl ?_
    refine wp_iload dX5_kindsLeft_38 rfl ?_
    refine wp_callVI (a := 36) (d1 := 5) (As := [.ref (ad G 12), .ref (ad G 1), .int x4]) (st := []) dX5_kindsLeft_40 rfl cm_X5_agrees m_4_41 (by decide) rfl (Nat.le_of_ble_eq_true rfl) rfl h ?_
    intro r4 M3 h
    refine wp_if_eq (tgt := 55) dX5_kindsLeft_43 (by decide) (fun c5 => ?_) (fun c5 => ?_)
    · replace h := h.1 c5
      refine wp_iinc (v := (x6 + 1)) (ls' := [some (.ref (ad G 36)), some (.ref (ad G 12)), none, some (.ref (ad G 1)), some (.int x4), some (.int x5), some (.int (x6 + 1))]) dX5_kindsLeft_55 rfl rfl (by decide) rfl rfl ?_
      refine wp_goto (tgt := 19) dX5_kindsLeft_58 (by decide) ?_
      exact h
    · replace h := h.2 c5
      refine wp_iload dX5_kindsLeft_46 rfl ?_
      refine wp_iconst (v := 1) dX5_kindsLeft_48 (by decide) ?_
      refine wp_iload dX5_kindsLeft_49 rfl ?_
      refine wp_ishl dX5_kindsLeft_51 ?_
      refine wp_ior dX5_kindsLeft_52 ?_
      refine wp_topI (fun y6 hy6 => ?_)
      replace h := h y6 hy6
      refine wp_istore (ls' := [some (.ref (ad G 36)), some (.ref (ad G 12)), none, some (.ref (ad G 1)), some (.int x4), some (.int y6), some (.int x6)]) dX5_kindsLeft_53 (by decide) rfl rfl ?_
      refine wp_iinc (v := (x6 + 1)) (ls' := [some (.ref (ad G 36)), some (.ref (ad G 12)), none, some (.ref (ad G 1)), some (.int x4), some (.int y6), some (.int (x6 + 1))]) dX5_kindsLeft_55 rfl rfl (by decide) rfl rfl ?_
      refine wp_goto (tgt := 19) dX5_kindsLeft_58 (by decide) ?_
      exact h
abbrev C_X5_kindsLeft (G : Glob) (x2 : Int32) (x4 : Int32) (M : Mem) (Q : Option Value → Mem → Prop) : Prop := WpM G 6 Y_X5_kindsLeft [.ref (ad G 36), .ref (ad G 12), .int x2, .ref (ad G 1), .int x4] M Q
set_option maxRecDepth 20000 in
theorem v_X5_kindsLeft {G : Glob} {x2 : Int32} {x4 : Int32} {M : Mem} {Q : Option Value → Mem → Prop}  (h : (vp_in x2 8 ∧ (WpM G 1 Y_X4_becomeLike [.ref (ad G 37), .ref (ad G (55 + x2.toNatClampNeg))] M (RV (fun M2 => P_X5_kindsLeft_19 G x4 0 0 M2 Q))))) : C_X5_kindsLeft G x2 x4 M Q := by
  refine wp_enter (ls0 := [some (.ref (ad G 36)), some (.ref (ad G 12)), some (.int x2), some (.ref (ad G 1)), some (.int x4), none, none]) (by decide +kernel) (Nat.le_of_ble_eq_true rfl) rfl ?_
  refine wp_iconst (v := 0) dX5_kindsLeft_0 (by decide) ?_
  refine wp_istore (ls' := [some (.ref (ad G 36)), some (.ref (ad G 12)), some (.int x2), some (.ref (ad G 1)), some (.int x4), some (.int 0), none]) dX5_kindsLeft_1 (by decide) rfl rfl ?_
  refine wp_aload_n dX5_kindsLeft_3 rfl rfl ?_
  refine wp_getR (b := 37) dX5_kindsLeft_4 rfl rfl fb_5_0 m_1_232 ?_
  refine wp_aload_n dX5_kindsLeft_7 rfl rfl ?_
  refine wp_getR (b := 13) dX5_kindsLeft_8 rfl rfl fb_3_0 m_1_146 ?_
  refine wp_iload_n dX5_kindsLeft_11 rfl rfl ?_
  obtain ⟨b1, h⟩ := h
  refine wp_aald (b := (55 + x2.toNatClampNeg)) (n := 8) dX5_kindsLeft_12 rfl (by decide) rfl b1 rfl ?_
  have kb1 : kd (55 + x2.toNatClampNeg) = 4 := (kda_23 (a := 13) rfl (vp_lt b1))
  refine wp_callVV (a := 37) (d1 := 1) (As := [.ref (ad G (55 + x2.toNatClampNeg))]) (st := []) dX5_kindsLeft_13 rfl cm_X4_becomeLike m_3_200 (by decide) rfl (Nat.le_of_ble_eq_true rfl) rfl h ?_
  intro M2 h
  refine wp_iconst (v := 0) dX5_kindsLeft_16 (by decide) ?_
  refine wp_istore (ls' := [some (.ref (ad G 36)), some (.ref (ad G 12)), some (.int x2), some (.ref (ad G 1)), some (.int x4), some (.int 0), some (.int 0)]) dX5_kindsLeft_17 (by decide) rfl rfl ?_
  exact wp_mask [true, true, false, true, true, true, true] rfl h
abbrev P_X5_nextTry_11 (G : Glob) (x2 : Int32) (x3 : Int32) (x4 : Int32) (x5 : Int32) (x6 : Int32) (M : Mem) (Q : Option Value → Mem → Prop) : Prop := Wp G 6 Y_X5_nextTry 11 [some (.ref (ad G 36)), some (.ref (ad G 12)), some (.int x2), some (.int x3), some (.int x4), some (.int x5), some (.int x6), none] [] M Q
set_option maxRecDepth 20000 in
theorem v_X5_nextTry_11 {G : Glob} {x2 : Int32} {x3 : Int32} {x4 : Int32} {x5 : Int32} {x6 : Int32} {M : Mem} {Q : Option Value → Mem → Prop}  (h : ((x6 < (M.1 12 2) → ((x6 = x2 → P_X5_nextTry_11 G x2 x3 x4 x5 (x6 + 1) M Q) ∧ (¬ x6 = x2 → (WpM G 5 Y_X5_greatestPart [.ref (ad G 36), .ref (ad G 12), .int x2, .int x3, .int x6] M (RI (fun r4 M3 => ((r4 < x5 → P_X5_nextTry_11 G x2 x3 x6 r4 (x6 + 1) M3 Q) ∧ (¬ r4 < x5 → P_X5_nextTry_11 G x2 x3 x4 x5 (x6 + 1) M3 Q)))))))) ∧ (¬ x6 < (M.1 12 2) → Q (some (.int x4)) M))) : P_X5_nextTry_11 G x2 x3 x4 x5 x6 M Q := by
  refine wp_iload dX5_nextTry_11 rfl ?_
  refine wp_aload_n dX5_nextTry_13 rfl rfl ?_
  refine wp_getI dX5_nextTry_14 rfl fb_3_2 m_1_154 ?_
  refine wp_icmp_ge (tgt := 58) dX5_nextTry_17 (by decide) (fun c1 => ?_) (fun c1 => ?_)
  · replace h := h.2 c1
    refine wp_iload dX5_nextTry_58 rfl ?_
    exact wp_iret (ty := .int) dX5_nextTry_60 rfl rfl h
  · replace h := h.1 c1
    refine wp_iload dX5_nextTry_20 rfl ?_
    refine wp_iload_n dX5_nextTry_22 rfl rfl ?_
    refine wp_icmp_eq (tgt := 52) dX5_nextTry_23 (by decide) (fun c2 => ?_) (fun c2 => ?_)
    · replace h := h.1 c2
      refine wp_iinc (v := (x6 + 1)) (ls' := [some (.ref (ad G 36)), some (.ref (ad G 12)), some (.int x2), some (.int x3), some (.int x4), some (.int x5), some (.int (x6 + 1)), none]) dX5_nextTry_52 rfl rfl (by decide) rfl rfl ?_
      refine wp_goto (tgt := 11) dX5_nextTry_55 (by decide) ?_
      exact h
    · replace h := h.2 c2
      refine wp_aload_n dX5_nextTry_26 rfl rfl ?_
      refine wp_aload_n dX5_nextTry_27 rfl rfl ?_
      refine wp_iload_n dX5_nextTry_28 rfl rfl ?_
      refine wp_iload_n dX5_nextTry_29 rfl rfl ?_
      refine wp_iload dX5_nextTry_30 rfl ?_
      refine wp_callVI (a := 36) (d1 := 5) (As := [.ref (ad G 12), .int x2, .int x3, .int x6]) (st := []) dX5_nextTry_32 rfl cm_X5_greatestPart m_4_69 (by decide) rfl (Nat.le_of_ble_eq_true rfl) rfl h ?_
      intro r4 M3 h
      refine wp_istore (ls' := [some (.ref (ad G 36)), some (.ref (ad G 12)), some (.int x2), some (.int x3), some (.int x4), some (.int x5), some (.int x6), some (.int r4)]) dX5_nextTry_35 (by decide) rfl rfl ?_
      refine wp_iload dX5_nextTry_37 rfl ?_
      refine wp_iload dX5_nextTry_39 rfl ?_
      refine wp_icmp_ge (tgt := 52) dX5_nextTry_41 (by decide) (fun c5 => ?_) (fun c5 => ?_)
      · replace h := h.2 c5
        refine wp_iinc (v := (x6 + 1)) (ls' := [some (.ref (ad G 36)), some (.ref (ad G 12)), some (.int x2), some (.int x3), some (.int x4), some (.int x5), some (.int (x6 + 1)), some (.int r4)]) dX5_nextTry_52 rfl rfl (by decide) rfl rfl ?_
        refine wp_goto (tgt := 11) dX5_nextTry_55 (by decide) ?_
        exact wp_mask [true, true, true, true, true, true, true, false] rfl h
      · replace h := h.1 c5
        refine wp_iload dX5_nextTry_44 rfl ?_
        refine wp_istore (ls' := [some (.ref (ad G 36)), some (.ref (ad G 12)), some (.int x2), some (.int x3), some (.int x6), some (.int x5), some (.int x6), some (.int r4)]) dX5_nextTry_46 (by decide) rfl rfl ?_
        refine wp_iload dX5_nextTry_48 rfl ?_
        refine wp_istore (ls' := [some (.ref (ad G 36)), some (.ref (ad G 12)), some (.int x2), some (.int x3), some (.int x6), some (.int r4), some (.int x6), some (.int r4)]) dX5_nextTry_50 (by decide) rfl rfl ?_
        refine wp_iinc (v := (x6 + 1)) (ls' := [some (.ref (ad G 36)), some (.ref (ad G 12)), some (.int x2), some (.int x3), some (.int x6), some (.int r4), some (.int (x6 + 1)), some (.int r4)]) dX5_nextTry_52 rfl rfl (by decide) rfl rfl ?_
        refine wp_goto (tgt := 11) dX5_nextTry_55 (by decide) ?_
        exact wp_mask [true, true, true, true, true, true, true, false] rfl h
abbrev C_X5_nextTry (G : Glob) (x2 : Int32) (x3 : Int32) (M : Mem) (Q : Option Value → Mem → Prop) : Prop := WpM G 6 Y_X5_nextTry [.ref (ad G 36), .ref (ad G 12), .int x2, .int x3] M Q
set_option maxRecDepth 20000 in
theorem v_X5_nextTry {G : Glob} {x2 : Int32} {x3 : Int32} {M : Mem} {Q : Option Value → Mem → Prop}  (h : P_X5_nextTry_11 G x2 x3 (-9 : Int32) 7 0 M Q) : C_X5_nextTry G x2 x3 M Q := by
  refine wp_enter (ls0 := [some (.ref (ad G 36)), some (.ref (ad G 12)), some (.int x2), some (.int x3), none, none, none, none]) (by decide +kernel) (Nat.le_of_ble_eq_true rfl) rfl ?_
  refine wp_bipush (v := (-9 : Int32)) dX5_nextTry_0 (by decide) ?_
  refine wp_istore (ls' := [some (.ref (ad G 36)), some (.ref (ad G 12)), some (.int x2), some (.int x3), some (.int (-9 : Int32)), none, none, none]) dX5_nextTry_2 (by decide) rfl rfl ?_
  refine wp_bipush (v := 7) dX5_nextTry_4 (by decide) ?_
  refine wp_istore (ls' := [some (.ref (ad G 36)), some (.ref (ad G 12)), some (.int x2), some (.int x3), some (.int (-9 : Int32)), some (.int 7), none, none]) dX5_nextTry_6 (by decide) rfl rfl ?_
  refine wp_iconst (v := 0) dX5_nextTry_8 (by decide) ?_
  refine wp_istore (ls' := [some (.ref (ad G 36)), some (.ref (ad G 12)), some (.int x2), some (.int x3), some (.int (-9 : Int32)), some (.int 7), some (.int 0), none]) dX5_nextTry_9 (by decide) rfl rfl ?_
  exact h
abbrev P_X5_greatestPart_38 (G : Glob) (x3 : Int32) (x4 : Int32) (x5 : Int32) (x6 : Int32) (M : Mem) (Q : Option Value → Mem → Prop) : Prop := Wp G 5 Y_X5_greatestPart 38 [some (.ref (ad G 36)), some (.ref (ad G 12)), none, some (.int x3), some (.int x4), some (.int x5), some (.int x6)] [] M Q
abbrev P_X5_greatestPart_84 (G : Glob) (x3 : Int32) (x5 : Int32) (x6 : Int32) (M : Mem) (Q : Option Value → Mem → Prop) : Prop := Wp G 5 Y_X5_greatestPart 84 [some (.ref (ad G 36)), none, none, some (.int x3), none, some (.int x5), some (.int x6)] [] M Q
set_option maxRecDepth 20000 in
theorem v_X5_greatestPart_38 {G : Glob} {x3 : Int32} {x4 : Int32} {x5 : Int32} {x6 : Int32} {M : Mem} {Q : Option Value → Mem → Prop}  (h : ((x6 < 6 → (∀ M2 : Mem, M2 = upI M 37 0 x6 → (vp_in x4 8 ∧ (WpM G 4 Y_X4_goodWith [.ref (ad G 37), .ref (ad G (55 + x4.toNatClampNeg))] M2 (RI (fun r5 M4 => (vp_in x6 6 ∧ (∀ M7 : Mem, M7 = upI M4 38 (x6.toNatClampNeg) r5 → P_X5_greatestPart_38 G x3 x4 x5 (x6 + 1) M7 Q)))))))) ∧ (¬ x6 < 6 → P_X5_greatestPart_84 G x3 x5 0 M Q))) : P_X5_greatestPart_38 G x3 x4 x5 x6 M Q := by
  refine wp_iload dX5_greatestPart_38 rfl ?_
  refine wp_bipush (v := 6) dX5_greatestPart_40 (by decide) ?_
  refine wp_icmp_ge (tgt := 81) dX5_greatestPart_42 (by decide) (fun c1 => ?_) (fun c1 => ?_)
  · replace h := h.2 c1
    refine wp_iconst (v := 0) dX5_greatestPart_81 (by decide) ?_
    refine wp_istore (ls' := [some (.ref (ad G 36)), some (.ref (ad G 12)), none, some (.int x3), some (.int x4), some (.int x5), some (.int 0)]) dX5_greatestPart_82 (by decide) rfl rfl ?_
    exact wp_mask [true, false, false, true, false, true, true] rfl h
  · replace h := h.1 c1
    refine wp_aload_n dX5_greatestPart_45 rfl rfl ?_
    refine wp_getR (b := 37) dX5_greatestPart_46 rfl rfl fb_5_0 m_1_232 ?_
    refine wp_iload dX5_greatestPart_49 rfl ?_
    refine wp_putI dX5_greatestPart_51 rfl fp_4_0 m_1_111 ?_
    refine wp_topM (fun M2 hM2 => ?_)
    replace h := h M2 hM2
    refine wp_aload_n dX5_greatestPart_54 rfl rfl ?_
    refine wp_getR (b := 38) dX5_greatestPart_55 rfl rfl fb_5_1 m_1_233 ?_
    refine wp_iload dX5_greatestPart_58 rfl ?_
    refine wp_aload_n dX5_greatestPart_60 rfl rfl ?_
    refine wp_getR (b := 37) dX5_greatestPart_61 rfl rfl fb_5_0 m_1_232 ?_
    refine wp_aload_n dX5_greatestPart_64 rfl rfl ?_
    refine wp_getR (b := 13) dX5_greatestPart_65 rfl rfl fb_3_0 m_1_146 ?_
    refine wp_iload dX5_greatestPart_68 rfl ?_
    obtain ⟨b3, h⟩ := h
    refine wp_aald (b := (55 + x4.toNatClampNeg)) (n := 8) dX5_greatestPart_70 rfl (by decide) rfl b3 rfl ?_
    have kb3 : kd (55 + x4.toNatClampNeg) = 4 := (kda_23 (a := 13) rfl (vp_lt b3))
    refine wp_callVI (a := 37) (d1 := 4) (As := [.ref (ad G (55 + x4.toNatClampNeg))]) (st := [.int x6, .ref (ad G 38)]) dX5_greatestPart_71 rfl cm_X4_goodWith m_3_205 (by decide) rfl (Nat.le_of_ble_eq_true rfl) rfl h ?_
    intro r5 M4 h
    obtain ⟨b6, h⟩ := h
    refine wp_iast (n := 6) dX5_greatestPart_74 rfl rfl b6 ?_
    refine wp_topM (fun M7 hM7 => ?_)
    replace h := h M7 hM7
    refine wp_iinc (v := (x6 + 1)) (ls' := [some (.ref (ad G 36)), some (.ref (ad G 12)), none, some (.int x3), some (.int x4), some (.int x5), some (.int (x6 + 1))]) dX5_greatestPart_75 rfl rfl (by decide) rfl rfl ?_
    refine wp_goto (tgt := 38) dX5_greatestPart_78 (by decide) ?_
    exact h
set_option maxRecDepth 20000 in
theorem v_X5_greatestPart_84 {G : Glob} {x3 : Int32} {x5 : Int32} {x6 : Int32} {M : Mem} {Q : Option Value → Mem → Prop}  (h : ((x6 < 6 → (((x3 &&& (1 <<< (x6 &&& 31))) = 0 → P_X5_greatestPart_84 G x3 x5 (x6 + 1) M Q) ∧ (¬ (x3 &&& (1 <<< (x6 &&& 31))) = 0 → (vp_in x6 6 ∧ (WpM G 1 Y_X5_howManyLike [.ref (ad G 36), .int x3, .int (M.1 38 x6.toNatClampNeg)] M (RI (fun r5 M4 => (∀ y6 : Int32, y6 = (if x5 < r5 then r5 else x5) → P_X5_greatestPart_84 G x3 y6 (x6 + 1) M4 Q)))))))) ∧ (¬ x6 < 6 → Q (some (.int x5)) M))) : P_X5_greatestPart_84 G x3 x5 x6 M Q := by
  refine wp_iload dX5_greatestPart_84 rfl ?_
  refine wp_bipush (v := 6) dX5_greatestPart_86 (by decide) ?_
  refine wp_icmp_ge (tgt := 125) dX5_greatestPart_88 (by decide) (fun c1 => ?_) (fun c1 => ?_)
  · replace h := h.2 c1
    refine wp_iload dX5_greatestPart_125 rfl ?_
    exact wp_iret (ty := .int) dX5_greatestPart_127 rfl rfl h
  · replace h := h.1 c1
    refine wp_iload_n dX5_greatestPart_91 rfl rfl ?_
    refine wp_iconst (v := 1) dX5_greatestPart_92 (by decide) ?_
    refine wp_iload dX5_greatestPart_93 rfl ?_
    refine wp_ishl dX5_greatestPart_95 ?_
    refine wp_iand dX5_greatestPart_96 ?_
    refine wp_if_eq (tgt := 119) dX5_greatestPart_97 (by decide) (fun c2 => ?_) (fun c2 => ?_)
    · replace h := h.1 c2
      refine wp_iinc (v := (x6 + 1)) (ls' := [some (.ref (ad G 36)), none, none, some (.int x3), none, some (.int x5), some (.int (x6 + 1))]) dX5_greatestPart_119 rfl rfl (by decide) rfl rfl ?_
      refine wp_goto (tgt := 84) dX5_greatestPart_122 (by decide) ?_
      exact h
    · replace h := h.2 c2
      refine wp_iload dX5_greatestPart_100 rfl ?_
      refine wp_aload_n dX5_greatestPart_102 rfl rfl ?_
      refine wp_iload_n dX5_greatestPart_103 rfl rfl ?_
      refine wp_aload_n dX5_greatestPart_104 rfl rfl ?_
      refine wp_getR (b := 38) dX5_greatestPart_105 rfl rfl fb_5_1 m_1_233 ?_
      refine wp_iload dX5_greatestPart_108 rfl ?_
      obtain ⟨b3, h⟩ := h
      refine wp_iald (n := 6) dX5_greatestPart_110 rfl rfl b3 ?_
      refine wp_callVI (a := 36) (d1 := 1) (As := [.int x3, .int (M.1 38 x6.toNatClampNeg)]) (st := [.int x5]) dX5_greatestPart_111 rfl cm_X5_howManyLike m_4_73 (by decide) rfl (Nat.le_of_ble_eq_true rfl) rfl h ?_
      intro r5 M4 h
      refine wp_max m_4_77 (by decide) mw_max (Nat.le_of_ble_eq_true rfl) dX5_greatestPart_114 ?_
      refine wp_topI (fun y6 hy6 => ?_)
      replace h := h y6 hy6
      refine wp_istore (ls' := [some (.ref (ad G 36)), none, none, some (.int x3), none, some (.int y6), some (.int x6)]) dX5_greatestPart_117 (by decide) rfl rfl ?_
      refine wp_iinc (v := (x6 + 1)) (ls' := [some (.ref (ad G 36)), none, none, some (.int x3), none, some (.int y6), some (.int (x6 + 1))]) dX5_greatestPart_119 rfl rfl (by decide) rfl rfl ?_
      refine wp_goto (tgt := 84) dX5_greatestPart_122 (by decide) ?_
      exact h
abbrev C_X5_greatestPart (G : Glob) (x2 : Int32) (x3 : Int32) (x4 : Int32) (M : Mem) (Q : Option Value → Mem → Prop) : Prop := WpM G 5 Y_X5_greatestPart [.ref (ad G 36), .ref (ad G 12), .int x2, .int x3, .int x4] M Q
set_option maxRecDepth 20000 in
theorem v_X5_greatestPart {G : Glob} {x2 : Int32} {x3 : Int32} {x4 : Int32} {M : Mem} {Q : Option Value → Mem → Prop}  (h : (WpM G 1 Y_X3_has [.ref (ad G 12), .int x2] M (RI (fun r2 M1 => ((r2 = 0 → Q (some (.int 0)) M1) ∧ (¬ r2 = 0 → (WpM G 1 Y_X3_has [.ref (ad G 12), .int x4] M1 (RI (fun r5 M4 => ((r5 = 0 → Q (some (.int 0)) M4) ∧ (¬ r5 = 0 → (vp_in x2 8 ∧ (WpM G 1 Y_X4_becomeLike [.ref (ad G 37), .ref (ad G (55 + x2.toNatClampNeg))] M4 (RV (fun M8 => P_X5_greatestPart_38 G x3 x4 0 0 M8 Q))))))))))))))) : C_X5_greatestPart G x2 x3 x4 M Q := by
  refine wp_enter (ls0 := [some (.ref (ad G 36)), some (.ref (ad G 12)), some (.int x2), some (.int x3), some (.int x4), none, none]) (by decide +kernel) (Nat.le_of_ble_eq_true rfl) rfl ?_
  refine wp_aload_n dX5_greatestPart_0 rfl rfl ?_
  refine wp_iload_n dX5_greatestPart_1 rfl rfl ?_
  refine wp_callVI (a := 12) (d1 := 1) (As := [.int x2]) (st := []) dX5_greatestPart_2 rfl cm_X3_has m_4_36 (by decide) rfl (Nat.le_of_ble_eq_true rfl) rfl h ?_
  intro r2 M1 h
  refine wp_if_eq (tgt := 17) dX5_greatestPart_5 (by decide) (fun c3 => ?_) (fun c3 => ?_)
  · replace h := h.1 c3
    refine wp_iconst (v := 0) dX5_greatestPart_17 (by decide) ?_
    exact wp_iret (ty := .int) dX5_greatestPart_18 rfl rfl h
  · replace h := h.2 c3
    refine wp_aload_n dX5_greatestPart_8 rfl rfl ?_
    refine wp_iload dX5_greatestPart_9 rfl ?_
    refine wp_callVI (a := 12) (d1 := 1) (As := [.int x4]) (st := []) dX5_greatestPart_11 rfl cm_X3_has m_4_36 (by decide) rfl (Nat.le_of_ble_eq_true rfl) rfl h ?_
    intro r5 M4 h
    refine wp_if_ne (tgt := 19) dX5_greatestPart_14 (by decide) (fun c6 => ?_) (fun c6 => ?_)
    · replace h := h.2 c6
      refine wp_aload_n dX5_greatestPart_19 rfl rfl ?_
      refine wp_getR (b := 37) dX5_greatestPart_20 rfl rfl fb_5_0 m_1_232 ?_
      refine wp_aload_n dX5_greatestPart_23 rfl rfl ?_
      refine wp_getR (b := 13) dX5_greatestPart_24 rfl rfl fb_3_0 m_1_146 ?_
      refine wp_iload_n dX5_greatestPart_27 rfl rfl ?_
      obtain ⟨b7, h⟩ := h
      refine wp_aald (b := (55 + x2.toNatClampNeg)) (n := 8) dX5_greatestPart_28 rfl (by decide) rfl b7 rfl ?_
      have kb7 : kd (55 + x2.toNatClampNeg) = 4 := (kda_23 (a := 13) rfl (vp_lt b7))
      refine wp_callVV (a := 37) (d1 := 1) (As := [.ref (ad G (55 + x2.toNatClampNeg))]) (st := []) dX5_greatestPart_29 rfl cm_X4_becomeLike m_3_200 (by decide) rfl (Nat.le_of_ble_eq_true rfl) rfl h ?_
      intro M8 h
      refine wp_iconst (v := 0) dX5_greatestPart_32 (by decide) ?_
      refine wp_istore (ls' := [some (.ref (ad G 36)), some (.ref (ad G 12)), some (.int x2), some (.int x3), some (.int x4), some (.int 0), none]) dX5_greatestPart_33 (by decide) rfl rfl ?_
      refine wp_iconst (v := 0) dX5_greatestPart_35 (by decide) ?_
      refine wp_istore (ls' := [some (.ref (ad G 36)), some (.ref (ad G 12)), some (.int x2), some (.int x3), some (.int x4), some (.int 0), some (.int 0)]) dX5_greatestPart_36 (by decide) rfl rfl ?_
      exact wp_mask [true, true, false, true, true, true, true] rfl h
    · replace h := h.1 c6
      refine wp_iconst (v := 0) dX5_greatestPart_17 (by decide) ?_
      exact wp_iret (ty := .int) dX5_greatestPart_18 rfl rfl h
abbrev P_X5_howManyLike_5 (G : Glob) (x1 : Int32) (x2 : Int32) (x3 : Int32) (x4 : Int32) (M : Mem) (Q : Option Value → Mem → Prop) : Prop := Wp G 1 Y_X5_howManyLike 5 [some (.ref (ad G 36)), some (.int x1), some (.int x2), some (.int x3), some (.int x4)] [] M Q
set_option maxRecDepth 20000 in
theorem v_X5_howManyLike_5 {G : Glob} {x1 : Int32} {x2 : Int32} {x3 : Int32} {x4 : Int32} {M : Mem} {Q : Option Value → Mem → Prop}  (h : ((x4 < 6 → (((x1 &&& (1 <<< (x4 &&& 31))) = 0 → P_X5_howManyLike_5 G x1 x2 x3 (x4 + 1) M Q) ∧ (¬ (x1 &&& (1 <<< (x4 &&& 31))) = 0 → (vp_in x4 6 ∧ (((M.1 38 x4.toNatClampNeg) = x2 → P_X5_howManyLike_5 G x1 x2 (x3 + 1) (x4 + 1) M Q) ∧ (¬ (M.1 38 x4.toNatClampNeg) = x2 → P_X5_howManyLike_5 G x1 x2 x3 (x4 + 1) M Q)))))) ∧ (¬ x4 < 6 → Q (some (.int x3)) M))) : P_X5_howManyLike_5 G x1 x2 x3 x4 M Q := by
  refine wp_iload dX5_howManyLike_5 rfl ?_
  refine wp_bipush (v := 6) dX5_howManyLike_7 (by decide) ?_
  refine wp_icmp_ge (tgt := 41) dX5_howManyLike_9 (by decide) (fun c1 => ?_) (fun c1 => ?_)
  · replace h := h.2 c1
    refine wp_iload_n dX5_howManyLike_41 rfl rfl ?_
    exact wp_iret (ty := .int) dX5_howManyLike_42 rfl rfl h
  · replace h := h.1 c1
    refine wp_iload_n dX5_howManyLike_12 rfl rfl ?_
    refine wp_iconst (v := 1) dX5_howManyLike_13 (by decide) ?_
    refine wp_iload dX5_howManyLike_14 rfl ?_
    refine wp_ishl dX5_howManyLike_16 ?_
    refine wp_iand dX5_howManyLike_17 ?_
    refine wp_if_eq (tgt := 35) dX5_howManyLike_18 (by decide) (fun c2 => ?_) (fun c2 => ?_)
    · replace h := h.1 c2
      refine wp_iinc (v := (x4 + 1)) (ls' := [some (.ref (ad G 36)), some (.int x1), some (.int x2), some (.int x3), some (.int (x4 + 1))]) dX5_howManyLike_35 rfl rfl (by decide) rfl rfl ?_
      refine wp_goto (tgt := 5) dX5_howManyLike_38 (by decide) ?_
      exact h
    · replace h := h.2 c2
      refine wp_aload_n dX5_howManyLike_21 rfl rfl ?_
      refine wp_getR (b := 38) dX5_howManyLike_22 rfl rfl fb_5_1 m_1_233 ?_
      refine wp_iload dX5_howManyLike_25 rfl ?_
      obtain ⟨b3, h⟩ := h
      refine wp_iald (n := 6) dX5_howManyLike_27 rfl rfl b3 ?_
      refine wp_iload_n dX5_howManyLike_28 rfl rfl ?_
      refine wp_icmp_ne (tgt := 35) dX5_howManyLike_29 (by decide) (fun c4 => ?_) (fun c4 => ?_)
      · replace h := h.2 c4
        refine wp_iinc (v := (x4 + 1)) (ls' := [some (.ref (ad G 36)), some (.int x1), some (.int x2), some (.int x3), some (.int (x4 + 1))]) dX5_howManyLike_35 rfl rfl (by decide) rfl rfl ?_
        refine wp_goto (tgt := 5) dX5_howManyLike_38 (by decide) ?_
        exact h
      · replace h := h.1 c4
        refine wp_iinc (v := (x3 + 1)) (ls' := [some (.ref (ad G 36)), some (.int x1), some (.int x2), some (.int (x3 + 1)), some (.int x4)]) dX5_howManyLike_32 rfl rfl (by decide) rfl rfl ?_
        refine wp_iinc (v := (x4 + 1)) (ls' := [some (.ref (ad G 36)), some (.int x1), some (.int x2), some (.int (x3 + 1)), some (.int (x4 + 1))]) dX5_howManyLike_35 rfl rfl (by decide) rfl rfl ?_
        refine wp_goto (tgt := 5) dX5_howManyLike_38 (by decide) ?_
        exact h
abbrev C_X5_howManyLike (G : Glob) (x1 : Int32) (x2 : Int32) (M : Mem) (Q : Option Value → Mem → Prop) : Prop := WpM G 1 Y_X5_howManyLike [.ref (ad G 36), .int x1, .int x2] M Q
set_option maxRecDepth 20000 in
theorem v_X5_howManyLike {G : Glob} {x1 : Int32} {x2 : Int32} {M : Mem} {Q : Option Value → Mem → Prop}  (h : P_X5_howManyLike_5 G x1 x2 0 0 M Q) : C_X5_howManyLike G x1 x2 M Q := by
  refine wp_enter (ls0 := [some (.ref (ad G 36)), some (.int x1), some (.int x2), none, none]) (by decide +kernel) (Nat.le_of_ble_eq_true rfl) rfl ?_
  refine wp_iconst (v := 0) dX5_howManyLike_0 (by decide) ?_
  refine wp_istore_n (ls' := [some (.ref (ad G 36)), some (.int x1), some (.int x2), some (.int 0), none]) dX5_howManyLike_1 rfl (by decide) rfl rfl ?_
  refine wp_iconst (v := 0) dX5_howManyLike_2 (by decide) ?_
  refine wp_istore (ls' := [some (.ref (ad G 36)), some (.int x1), some (.int x2), some (.int 0), some (.int 0)]) dX5_howManyLike_3 (by decide) rfl rfl ?_
  exact h
abbrev P_X5_gainOfStretch_26 (G : Glob) (x2 : Int32) (x3 : Int32) (x4 : Int32) (M : Mem) (Q : Option Value → Mem → Prop) : Prop := Wp G 5 Y_X5_gainOfStretch 26 [some (.ref (ad G 36)), some (.ref (ad G 12)), some (.int x2), some (.int x3), some (.int x4)] [] M Q
set_option maxRecDepth 20000 in
theorem v_X5_gainOfStretch_26 {G : Glob} {x2 : Int32} {x3 : Int32} {x4 : Int32} {M : Mem} {Q : Option Value → Mem → Prop}  (h : ((x4 < (M.1 12 2) → ((x4 = x2 → P_X5_gainOfStretch_26 G x2 x3 (x4 + 1) M Q) ∧ (¬ x4 = x2 → (WpM G 2 Y_X3_isInside [.ref (ad G 12), .int x4] M (RI (fun r4 M3 => ((r4 = 0 → P_X5_gainOfStretch_26 G x2 x3 (x4 + 1) M3 Q) ∧ (¬ r4 = 0 → (vp_in x2 8 ∧ (vp_in x4 8 ∧ (WpM G 4 Y_X4_goodWith [.ref (ad G (55 + x2.toNatClampNeg)), .ref (ad G (55 + x4.toNatClampNeg))] M3 (RI (fun r9 M8 => (vp_in x4 8 ∧ (WpM G 4 Y_X4_goodWith [.ref (ad G 37), .ref (ad G (55 + x4.toNatClampNeg))] M8 (RI (fun r12 M11 => P_X5_gainOfStretch_26 G x2 (x3 + (r9 - r12)) (x4 + 1) M11 Q))))))))))))))))) ∧ (¬ x4 < (M.1 12 2) → Q (some (.int x3)) M))) : P_X5_gainOfStretch_26 G x2 x3 x4 M Q := by
  refine wp_iload dX5_gainOfStretch_26 rfl ?_
  refine wp_aload_n dX5_gainOfStretch_28 rfl rfl ?_
  refine wp_getI dX5_gainOfStretch_29 rfl fb_3_2 m_1_154 ?_
  refine wp_icmp_ge (tgt := 90) dX5_gainOfStretch_32 (by decide) (fun c1 => ?_) (fun c1 => ?_)
  · replace h := h.2 c1
    refine wp_iload_n dX5_gainOfStretch_90 rfl rfl ?_
    exact wp_iret (ty := .int) dX5_gainOfStretch_91 rfl rfl h
  · replace h := h.1 c1
    refine wp_iload dX5_gainOfStretch_35 rfl ?_
    refine wp_iload_n dX5_gainOfStretch_37 rfl rfl ?_
    refine wp_icmp_eq (tgt := 84) dX5_gainOfStretch_38 (by decide) (fun c2 => ?_) (fun c2 => ?_)
    · replace h := h.1 c2
      refine wp_iinc (v := (x4 + 1)) (ls' := [some (.ref (ad G 36)), some (.ref (ad G 12)), some (.int x2), some (.int x3), some (.int (x4 + 1))]) dX5_gainOfStretch_84 rfl rfl (by decide) rfl rfl ?_
      refine wp_goto (tgt := 26) dX5_gainOfStretch_87 (by decide) ?_
      exact h
    · replace h := h.2 c2
      refine wp_aload_n dX5_gainOfStretch_41 rfl rfl ?_
      refine wp_iload dX5_gainOfStretch_42 rfl ?_
      refine wp_callVI (a := 12) (d1 := 2) (As := [.int x4]) (st := []) dX5_gainOfStretch_44 rfl cm_X3_isInside m_3_204 (by decide) rfl (Nat.le_of_ble_eq_true rfl) rfl h ?_
      intro r4 M3 h
      refine wp_if_eq (tgt := 84) dX5_gainOfStretch_47 (by decide) (fun c5 => ?_) (fun c5 => ?_)
      · replace h := h.1 c5
        refine wp_iinc (v := (x4 + 1)) (ls' := [some (.ref (ad G 36)), some (.ref (ad G 12)), some (.int x2), some (.int x3), some (.int (x4 + 1))]) dX5_gainOfStretch_84 rfl rfl (by decide) rfl rfl ?_
        refine wp_goto (tgt := 26) dX5_gainOfStretch_87 (by decide) ?_
        exact h
      · replace h := h.2 c5
        refine wp_iload_n dX5_gainOfStretch_50 rfl rfl ?_
        refine wp_aload_n dX5_gainOfStretch_51 rfl rfl ?_
        refine wp_getR (b := 13) dX5_gainOfStretch_52 rfl rfl fb_3_0 m_1_146 ?_
        refine wp_iload_n dX5_gainOfStretch_55 rfl rfl ?_
        obtain ⟨b6, h⟩ := h
        refine wp_aald (b := (55 + x2.toNatClampNeg)) (n := 8) dX5_gainOfStretch_56 rfl (by decide) rfl b6 rfl ?_
        have kb6 : kd (55 + x2.toNatClampNeg) = 4 := (kda_23 (a := 13) rfl (vp_lt b6))
        refine wp_aload_n dX5_gainOfStretch_57 rfl rfl ?_
        refine wp_getR (b := 13) dX5_gainOfStretch_58 rfl rfl fb_3_0 m_1_146 ?_
        refine wp_iload dX5_gainOfStretch_61 rfl ?_
        obtain ⟨b7, h⟩ := h
        refine wp_aald (b := (55 + x4.toNatClampNeg)) (n := 8) dX5_gainOfStretch_63 rfl (by decide) rfl b7 rfl ?_
        have kb7 : kd (55 + x4.toNatClampNeg) = 4 := (kda_23 (a := 13) rfl (vp_lt b7))
        refine wp_callVI (a := (55 + x2.toNatClampNeg)) (d1 := 4) (As := [.ref (ad G (55 + x4.toNatClampNeg))]) (st := [.int x3]) dX5_gainOfStretch_64 kb6 cm_X4_goodWith m_3_205 (by decide) rfl (Nat.le_of_ble_eq_true rfl) rfl h ?_
        intro r9 M8 h
        refine wp_aload_n dX5_gainOfStretch_67 rfl rfl ?_
        refine wp_getR (b := 37) dX5_gainOfStretch_68 rfl rfl fb_5_0 m_1_232 ?_
        refine wp_aload_n dX5_gainOfStretch_71 rfl rfl ?_
        refine wp_getR (b := 13) dX5_gainOfStretch_72 rfl rfl fb_3_0 m_1_146 ?_
        refine wp_iload dX5_gainOfStretch_75 rfl ?_
        obtain ⟨b10, h⟩ := h
        refine wp_aald (b := (55 + x4.toNatClampNeg)) (n := 8) dX5_gainOfStretch_77 rfl (by decide) rfl b10 rfl ?_
        have kb10 : kd (55 + x4.toNatClampNeg) = 4 := (kda_23 (a := 13) rfl (vp_lt b10))
        refine wp_callVI (a := 37) (d1 := 4) (As := [.ref (ad G (55 + x4.toNatClampNeg))]) (st := [.int r9, .int x3]) dX5_gainOfStretch_78 rfl cm_X4_goodWith m_3_205 (by decide) rfl (Nat.le_of_ble_eq_true rfl) rfl h ?_
        intro r12 M11 h
        refine wp_isub dX5_gainOfStretch_81 ?_
        refine wp_iadd dX5_gainOfStretch_82 ?_
        refine wp_istore_n (ls' := [some (.ref (ad G 36)), some (.ref (ad G 12)), some (.int x2), some (.int (x3 + (r9 - r12))), some (.int x4)]) dX5_gainOfStretch_83 rfl (by decide) rfl rfl ?_
        refine wp_iinc (v := (x4 + 1)) (ls' := [some (.ref (ad G 36)), some (.ref (ad G 12)), some (.int x2), some (.int (x3 + (r9 - r12))), some (.int (x4 + 1))]) dX5_gainOfStretch_84 rfl rfl (by decide) rfl rfl ?_
        refine wp_goto (tgt := 26) dX5_gainOfStretch_87 (by decide) ?_
        exact h
abbrev C_X5_gainOfStretch (G : Glob) (x2 : Int32) (M : Mem) (Q : Option Value → Mem → Prop) : Prop := WpM G 5 Y_X5_gainOfStretch [.ref (ad G 36), .ref (ad G 12), .int x2] M Q
set_option maxRecDepth 20000 in
theorem v_X5_gainOfStretch {G : Glob} {x2 : Int32} {M : Mem} {Q : Option Value → Mem → Prop}  (h : (vp_in x2 8 ∧ (WpM G 1 Y_X4_becomeLike [.ref (ad G 37), .ref (ad G (55 + x2.toNatClampNeg))] M (RV (fun M2 => (∀ M3 : Mem, M3 = upI M2 37 0 2 → P_X5_gainOfStretch_26 G x2 0 0 M3 Q)))))) : C_X5_gainOfStretch G x2 M Q := by
  refine wp_enter (ls0 := [some (.ref (ad G 36)), some (.ref (ad G 12)), some (.int x2), none, none]) (by decide +kernel) (Nat.le_of_ble_eq_true rfl) rfl ?_
  refine wp_iconst (v := 0) dX5_gainOfStretch_0 (by decide) ?_
  refine wp_istore_n (ls' := [some (.ref (ad G 36)), some (.ref (ad G 12)), some (.int x2), some (.int 0), none]) dX5_gainOfStretch_1 rfl (by decide) rfl rfl ?_
  refine wp_aload_n dX5_gainOfStretch_2 rfl rfl ?_
  refine wp_getR (b := 37) dX5_gainOfStretch_3 rfl rfl fb_5_0 m_1_232 ?_
  refine wp_aload_n dX5_gainOfStretch_6 rfl rfl ?_
  refine wp_getR (b := 13) dX5_gainOfStretch_7 rfl rfl fb_3_0 m_1_146 ?_
  refine wp_iload_n dX5_gainOfStretch_10 rfl rfl ?_
  obtain ⟨b1, h⟩ := h
  refine wp_aald (b := (55 + x2.toNatClampNeg)) (n := 8) dX5_gainOfStretch_11 rfl (by decide) rfl b1 rfl ?_
  have kb1 : kd (55 + x2.toNatClampNeg) = 4 := (kda_23 (a := 13) rfl (vp_lt b1))
  refine wp_callVV (a := 37) (d1 := 1) (As := [.ref (ad G (55 + x2.toNatClampNeg))]) (st := []) dX5_gainOfStretch_12 rfl cm_X4_becomeLike m_3_200 (by decide) rfl (Nat.le_of_ble_eq_true rfl) rfl h ?_
  intro M2 h
  refine wp_aload_n dX5_gainOfStretch_15 rfl rfl ?_
  refine wp_getR (b := 37) dX5_gainOfStretch_16 rfl rfl fb_5_0 m_1_232 ?_
  refine wp_iconst (v := 2) dX5_gainOfStretch_19 (by decide) ?_
  refine wp_putI dX5_gainOfStretch_20 rfl fp_4_0 m_1_111 ?_
  refine wp_topM (fun M3 hM3 => ?_)
  replace h := h M3 hM3
  refine wp_iconst (v := 0) dX5_gainOfStretch_23 (by decide) ?_
  refine wp_istore (ls' := [some (.ref (ad G 36)), some (.ref (ad G 12)), some (.int x2), some (.int 0), some (.int 0)]) dX5_gainOfStretch_24 (by decide) rfl rfl ?_
  exact h
