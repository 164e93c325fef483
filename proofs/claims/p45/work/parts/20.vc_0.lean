abbrev P_X0_plan_51 (G : Glob) (x2 : Int32) (x4 : Int32) (x5 : Int32) (M : Mem) (Q : Option Value → Mem → Prop) : Prop := Wp G 11 Y_X0_plan 51 [some (.ref (ad G 28)), none, some (.int x2), some (.ref (ad G 1)), some (.int x4), some (.int x5)] [] M Q
set_option maxRecDepth 20000 in
theorem v_X0_plan_51 {G : Glob} {x2 : Int32} {x4 : Int32} {x5 : Int32} {M : Mem} {Q : Option Value → Mem → Prop}  (h : ((x5 < x2 → (vp_in x5 3 ∧ (WpM G 4 Y_X9_write [.ref (ad G 1), .int x4, .int x5, .int (M.1 35 x5.toNatClampNeg)] M (RV (fun M3 => P_X0_plan_51 G x2 x4 (x5 + 1) M3 Q))))) ∧ (¬ x5 < x2 → Q (some (.int (M.1 28 6))) M))) : P_X0_plan_51 G x2 x4 x5 M Q := by
  refine wp_iload dX0_plan_51 rfl ?_
  refine wp_iload_n dX0_plan_53 rfl rfl ?_
  refine wp_icmp_ge (tgt := 78) dX0_plan_54 (by decide) (fun c1 => ?_) (fun c1 => ?_)
  · replace h := h.2 c1
    refine wp_aload_n dX0_plan_78 rfl rfl ?_
    refine wp_getI dX0_plan_79 rfl fb_0_6 m_1_208 ?_
    exact wp_iret (ty := .int) dX0_plan_82 rfl rfl h
  · replace h := h.1 c1
    refine wp_aload_n dX0_plan_57 rfl rfl ?_
    refine wp_iload dX0_plan_58 rfl ?_
    refine wp_iload dX0_plan_60 rfl ?_
    refine wp_aload_n dX0_plan_62 rfl rfl ?_
    refine wp_getR (b := 35) dX0_plan_63 rfl rfl fb_0_3 m_1_205 ?_
    refine wp_iload dX0_plan_66 rfl ?_
    obtain ⟨b2, h⟩ := h
    refine wp_iald (n := 3) dX0_plan_68 rfl rfl b2 ?_
    refine wp_callVV (a := 1) (d1 := 4) (As := [.int x4, .int x5, .int (M.1 35 x5.toNatClampNeg)]) (st := []) dX0_plan_69 rfl cm_X9_write m_4_17 (by decide) rfl (Nat.le_of_ble_eq_true rfl) rfl h ?_
    intro M3 h
    refine wp_iinc (v := (x5 + 1)) (ls' := [some (.ref (ad G 28)), none, some (.int x2), some (.ref (ad G 1)), some (.int x4), some (.int (x5 + 1))]) dX0_plan_72 rfl rfl (by decide) rfl rfl ?_
    refine wp_goto (tgt := 51) dX0_plan_75 (by decide) ?_
    exact h
abbrev C_X0_plan (G : Glob) (x2 : Int32) (x4 : Int32) (M : Mem) (Q : Option Value → Mem → Prop) : Prop := WpM G 11 Y_X0_plan [.ref (ad G 28), .ref (ad G 12), .int x2, .ref (ad G 1), .int x4] M Q
set_option maxRecDepth 20000 in
theorem v_X0_plan {G : Glob} {x2 : Int32} {x4 : Int32} {M : Mem} {Q : Option Value → Mem → Prop}  (h : (WpM G 5 Y_X0_gather [.ref (ad G 28), .ref (ad G 12)] M (RV (fun M1 => ((x2 < 0 → Q (some (.int (-9 : Int32))) M1) ∧ (¬ x2 < 0 → (((3 : Int32) < x2 → Q (some (.int (-9 : Int32))) M1) ∧ (¬ (3 : Int32) < x2 → (((0 : Int32) < x2 → (((M1.1 28 4) = 0 → Q (some (.int (-9 : Int32))) M1) ∧ (¬ (M1.1 28 4) = 0 → (∀ M9 : Mem, M9 = upI M1 28 6 (-9 : Int32) → (WpM G 10 Y_X0_search [.ref (ad G 28), .int 0, .int x2, .int 0] M9 (RV (fun M10 => (WpM G 2 Y_X9_begin [.ref (ad G 1), .int x4, .int x2] M10 (RV (fun M11 => P_X0_plan_51 G x2 x4 0 M11 Q)))))))))) ∧ (¬ (0 : Int32) < x2 → (∀ M5 : Mem, M5 = upI M1 28 6 (-9 : Int32) → (WpM G 10 Y_X0_search [.ref (ad G 28), .int 0, .int x2, .int 0] M5 (RV (fun M6 => (WpM G 2 Y_X9_begin [.ref (ad G 1), .int x4, .int x2] M6 (RV (fun M7 => P_X0_plan_51 G x2 x4 0 M7 Q))))))))))))))))) : C_X0_plan G x2 x4 M Q := by
  refine wp_enter (ls0 := [some (.ref (ad G 28)), some (.ref (ad G 12)), some (.int x2), some (.ref (ad G 1)), some (.int x4), none]) (by decide +kernel) (Nat.le_of_ble_eq_true rfl) rfl ?_
  refine wp_aload_n dX0_plan_0 rfl rfl ?_
  refine wp_aload_n dX0_plan_1 rfl rfl ?_
  refine wp_callVV (a := 28) (d1 := 5) (As := [.ref (ad G 12)]) (st := []) dX0_plan_2 rfl cm_X0_gather m_4_5 (by decide) rfl (Nat.le_of_ble_eq_true rfl) rfl h ?_
  intro M1 h
  refine wp_iload_n dX0_plan_5 rfl rfl ?_
  refine wp_if_lt (tgt := 25) dX0_plan_6 (by decide) (fun c2 => ?_) (fun c2 => ?_)
  · replace h := h.1 c2
    refine wp_bipush (v := (-9 : Int32)) dX0_plan_25 (by decide) ?_
    exact wp_iret (ty := .int) dX0_plan_27 rfl rfl h
  · replace h := h.2 c2
    refine wp_iload_n dX0_plan_9 rfl rfl ?_
    refine wp_iconst (v := 3) dX0_plan_10 (by decide) ?_
    refine wp_icmp_gt (tgt := 25) dX0_plan_11 (by decide) (fun c3 => ?_) (fun c3 => ?_)
    · replace h := h.1 c3
      refine wp_bipush (v := (-9 : Int32)) dX0_plan_25 (by decide) ?_
      exact wp_iret (ty := .int) dX0_plan_27 rfl rfl h
    · replace h := h.2 c3
      refine wp_iload_n dX0_plan_14 rfl rfl ?_
      refine wp_if_le (tgt := 28) dX0_plan_15 (by decide) (fun c4 => ?_) (fun c4 => ?_)
      · replace h := h.2 c4
        refine wp_aload_n dX0_plan_28 rfl rfl ?_
        refine wp_bipush (v := (-9 : Int32)) dX0_plan_29 (by decide) ?_
        refine wp_putI dX0_plan_31 rfl fp_0_6 m_1_208 ?_
        refine wp_topM (fun M5 hM5 => ?_)
        replace h := h M5 hM5
        refine wp_aload_n dX0_plan_34 rfl rfl ?_
        refine wp_iconst (v := 0) dX0_plan_35 (by decide) ?_
        refine wp_iload_n dX0_plan_36 rfl rfl ?_
        refine wp_iconst (v := 0) dX0_plan_37 (by decide) ?_
        refine wp_callSV (d1 := 10) (As := [.ref (ad G 28), .int 0, .int x2, .int 0]) (st := []) dX0_plan_38 cm_X0_search m_4_13 (by decide) rfl (Nat.le_of_ble_eq_true rfl) rfl h ?_
        intro M6 h
        refine wp_aload_n dX0_plan_41 rfl rfl ?_
        refine wp_iload dX0_plan_42 rfl ?_
        refine wp_iload_n dX0_plan_44 rfl rfl ?_
        refine wp_callVV (a := 1) (d1 := 2) (As := [.int x4, .int x2]) (st := []) dX0_plan_45 rfl cm_X9_begin m_4_16 (by decide) rfl (Nat.le_of_ble_eq_true rfl) rfl h ?_
        intro M7 h
        refine wp_iconst (v := 0) dX0_plan_48 (by decide) ?_
        refine wp_istore (ls' := [some (.ref (ad G 28)), some (.ref (ad G 12)), some (.int x2), some (.ref (ad G 1)), some (.int x4), some (.int 0)]) dX0_plan_49 (by decide) rfl rfl ?_
        exact wp_mask [true, false, true, true, true, true] rfl h
      · replace h := h.1 c4
        refine wp_aload_n dX0_plan_18 rfl rfl ?_
        refine wp_getI dX0_plan_19 rfl fb_0_4 m_1_206 ?_
        refine wp_if_ne (tgt := 28) dX0_plan_22 (by decide) (fun c8 => ?_) (fun c8 => ?_)
        · replace h := h.2 c8
          refine wp_aload_n dX0_plan_28 rfl rfl ?_
          refine wp_bipush (v := (-9 : Int32)) dX0_plan_29 (by decide) ?_
          refine wp_putI dX0_plan_31 rfl fp_0_6 m_1_208 ?_
          refine wp_topM (fun M9 hM9 => ?_)
          replace h := h M9 hM9
          refine wp_aload_n dX0_plan_34 rfl rfl ?_
          refine wp_iconst (v := 0) dX0_plan_35 (by decide) ?_
          refine wp_iload_n dX0_plan_36 rfl rfl ?_
          refine wp_iconst (v := 0) dX0_plan_37 (by decide) ?_
          refine wp_callSV (d1 := 10) (As := [.ref (ad G 28), .int 0, .int x2, .int 0]) (st := []) dX0_plan_38 cm_X0_search m_4_13 (by decide) rfl (Nat.le_of_ble_eq_true rfl) rfl h ?_
          intro M10 h
          refine wp_aload_n dX0_plan_41 rfl rfl ?_
          refine wp_iload dX0_plan_42 rfl ?_
          refine wp_iload_n dX0_plan_44 rfl rfl ?_
          refine wp_callVV (a := 1) (d1 := 2) (As := [.int x4, .int x2]) (st := []) dX0_plan_45 rfl cm_X9_begin m_4_16 (by decide) rfl (Nat.le_of_ble_eq_true rfl) rfl h ?_
          intro M11 h
          refine wp_iconst (v := 0) dX0_plan_48 (by decide) ?_
          refine wp_istore (ls' := [some (.ref (ad G 28)), some (.ref (ad G 12)), some (.int x2), some (.ref (ad G 1)), some (.int x4), some (.int 0)]) dX0_plan_49 (by decide) rfl rfl ?_
          exact wp_mask [true, false, true, true, true, true] rfl h
        · replace h := h.1 c8
          refine wp_bipush (v := (-9 : Int32)) dX0_plan_25 (by decide) ?_
          exact wp_iret (ty := .int) dX0_plan_27 rfl rfl h
abbrev P_X0_gather_13 (G : Glob) (x2 : Int32) (M : Mem) (Q : Option Value → Mem → Prop) : Prop := Wp G 5 Y_X0_gather 13 [some (.ref (ad G 28)), some (.ref (ad G 12)), some (.int x2), none, none] [] M Q
abbrev P_X0_gather_57 (G : Glob) (x2 : Int32) (M : Mem) (Q : Option Value → Mem → Prop) : Prop := Wp G 5 Y_X0_gather 57 [some (.ref (ad G 28)), none, some (.int x2), none, none] [] M Q
abbrev P_X0_gather_72 (G : Glob) (x2 : Int32) (x3 : Int32) (M : Mem) (Q : Option Value → Mem → Prop) : Prop := Wp G 5 Y_X0_gather 72 [some (.ref (ad G 28)), none, some (.int x2), some (.int x3), none] [] M Q
set_option maxRecDepth 20000 in
theorem v_X0_gather_13 {G : Glob} {x2 : Int32} {M : Mem} {Q : Option Value → Mem → Prop}  (h : ((x2 < (M.1 12 2) → (vp_in x2 8 ∧ (vp_in x2 8 ∧ (WpM G 1 Y_X4_becomeLike [.ref (ad G (63 + x2.toNatClampNeg)), .ref (ad G (55 + x2.toNatClampNeg))] M (RV (fun M6 => P_X0_gather_13 G (x2 + 1) M6 Q)))))) ∧ (¬ x2 < (M.1 12 2) → (∀ M2 : Mem, M2 = upI M 28 4 0 → (∀ M3 : Mem, M3 = upI M2 28 5 0 → P_X0_gather_57 G 0 M3 Q))))) : P_X0_gather_13 G x2 M Q := by
  refine wp_iload_n dX0_gather_13 rfl rfl ?_
  refine wp_aload_n dX0_gather_14 rfl rfl ?_
  refine wp_getI dX0_gather_15 rfl fb_3_2 m_1_153 ?_
  refine wp_icmp_ge (tgt := 45) dX0_gather_18 (by decide) (fun c1 => ?_) (fun c1 => ?_)
  · replace h := h.2 c1
    refine wp_aload_n dX0_gather_45 rfl rfl ?_
    refine wp_iconst (v := 0) dX0_gather_46 (by decide) ?_
    refine wp_putI dX0_gather_47 rfl fp_0_4 m_1_206 ?_
    refine wp_topM (fun M2 hM2 => ?_)
    replace h := h M2 hM2
    refine wp_aload_n dX0_gather_50 rfl rfl ?_
    refine wp_iconst (v := 0) dX0_gather_51 (by decide) ?_
    refine wp_putI dX0_gather_52 rfl fp_0_5 m_1_207 ?_
    refine wp_topM (fun M3 hM3 => ?_)
    replace h := h M3 hM3
    refine wp_iconst (v := 0) dX0_gather_55 (by decide) ?_
    refine wp_istore_n (ls' := [some (.ref (ad G 28)), some (.ref (ad G 12)), some (.int 0), none, none]) dX0_gather_56 rfl (by decide) rfl rfl ?_
    exact wp_mask [true, false, true, false, false] rfl h
  · replace h := h.1 c1
    refine wp_aload_n dX0_gather_21 rfl rfl ?_
    refine wp_getR (b := 29) dX0_gather_22 rfl rfl fb_0_0 m_1_202 ?_
    refine wp_getR (b := 30) dX0_gather_25 rfl rfl fb_3_0 m_1_145 ?_
    refine wp_iload_n dX0_gather_28 rfl rfl ?_
    obtain ⟨b4, h⟩ := h
    refine wp_aald (b := (63 + x2.toNatClampNeg)) (n := 8) dX0_gather_29 rfl (by decide) rfl b4 rfl ?_
    have kb4 : kd (63 + x2.toNatClampNeg) = 4 := (kda_23 (a := 30) rfl (vp_lt b4))
    refine wp_aload_n dX0_gather_30 rfl rfl ?_
    refine wp_getR (b := 13) dX0_gather_31 rfl rfl fb_3_0 m_1_145 ?_
    refine wp_iload_n dX0_gather_34 rfl rfl ?_
    obtain ⟨b5, h⟩ := h
    refine wp_aald (b := (55 + x2.toNatClampNeg)) (n := 8) dX0_gather_35 rfl (by decide) rfl b5 rfl ?_
    have kb5 : kd (55 + x2.toNatClampNeg) = 4 := (kda_23 (a := 13) rfl (vp_lt b5))
    refine wp_callVV (a := (63 + x2.toNatClampNeg)) (d1 := 1) (As := [.ref (ad G (55 + x2.toNatClampNeg))]) (st := []) dX0_gather_36 kb4 cm_X4_becomeLike m_4_9 (by decide) rfl (Nat.le_of_ble_eq_true rfl) rfl h ?_
    intro M6 h
    refine wp_iinc (v := (x2 + 1)) (ls' := [some (.ref (ad G 28)), some (.ref (ad G 12)), some (.int (x2 + 1)), none, none]) dX0_gather_39 rfl rfl (by decide) rfl rfl ?_
    refine wp_goto (tgt := 13) dX0_gather_42 (by decide) ?_
    exact h
set_option maxRecDepth 20000 in
theorem v_X0_gather_57 {G : Glob} {x2 : Int32} {M : Mem} {Q : Option Value → Mem → Prop}  (h : ((x2 < (M.1 29 2) → P_X0_gather_72 G x2 (x2 + 1) M Q) ∧ (¬ x2 < (M.1 29 2) → Q none M))) : P_X0_gather_57 G x2 M Q := by
  refine wp_iload_n dX0_gather_57 rfl rfl ?_
  refine wp_aload_n dX0_gather_58 rfl rfl ?_
  refine wp_getR (b := 29) dX0_gather_59 rfl rfl fb_0_0 m_1_202 ?_
  refine wp_getI dX0_gather_62 rfl fb_3_2 m_1_153 ?_
  refine wp_icmp_ge (tgt := 185) dX0_gather_65 (by decide) (fun c1 => ?_) (fun c1 => ?_)
  · replace h := h.2 c1
    exact wp_vret dX0_gather_185 rfl h
  · replace h := h.1 c1
    refine wp_iload_n dX0_gather_68 rfl rfl ?_
    refine wp_iconst (v := 1) dX0_gather_69 (by decide) ?_
    refine wp_iadd dX0_gather_70 ?_
    refine wp_istore_n (ls' := [some (.ref (ad G 28)), none, some (.int x2), some (.int (x2 + 1)), none]) dX0_gather_71 rfl (by decide) rfl rfl ?_
    exact h
set_option maxRecDepth 20000 in
theorem v_X0_gather_72 {G : Glob} {x2 : Int32} {x3 : Int32} {M : Mem} {Q : Option Value → Mem → Prop}  (h : ((x3 < (M.1 29 2) → (vp_in x2 8 ∧ (vp_in x3 8 ∧ (WpM G 4 Y_X4_goodWith [.ref (ad G (63 + x2.toNatClampNeg)), .ref (ad G (63 + x3.toNatClampNeg))] M (RI (fun r5 M4 => (WpM G 2 Y_X3_isInside [.ref (ad G 29), .int x2] M4 (RI (fun r7 M6 => ((r7 = 0 → P_X0_gather_72 G x2 (x3 + 1) M6 Q) ∧ (¬ r7 = 0 → (WpM G 2 Y_X3_isInside [.ref (ad G 29), .int x3] M6 (RI (fun r10 M9 => ((r10 = 0 → P_X0_gather_72 G x2 (x3 + 1) M9 Q) ∧ (¬ r10 = 0 → ((r5 = (-9 : Int32) → P_X0_gather_72 G x2 (x3 + 1) M9 Q) ∧ (¬ r5 = (-9 : Int32) → (vp_in (M9.1 28 4) 64 ∧ (∀ M14 : Mem, M14 = upI M9 33 ((M9.1 28 4).toNatClampNeg) (((10 : Int32) * x2) + x3) → (∀ M15 : Mem, M15 = upI M14 28 4 ((M14.1 28 4) + 1) → (∀ M16 : Mem, M16 = upI M15 28 5 (if (M15.1 28 5) < r5 then r5 else (M15.1 28 5)) → P_X0_gather_72 G x2 (x3 + 1) M16 Q)))))))))))))))))))))) ∧ (¬ x3 < (M.1 29 2) → P_X0_gather_57 G (x2 + 1) M Q))) : P_X0_gather_72 G x2 x3 M Q := by
  refine wp_iload_n dX0_gather_72 rfl rfl ?_
  refine wp_aload_n dX0_gather_73 rfl rfl ?_
  refine wp_getR (b := 29) dX0_gather_74 rfl rfl fb_0_0 m_1_202 ?_
  refine wp_getI dX0_gather_77 rfl fb_3_2 m_1_153 ?_
  refine wp_icmp_ge (tgt := 179) dX0_gather_80 (by decide) (fun c1 => ?_) (fun c1 => ?_)
  · replace h := h.2 c1
    refine wp_iinc (v := (x2 + 1)) (ls' := [some (.ref (ad G 28)), none, some (.int (x2 + 1)), some (.int x3), none]) dX0_gather_179 rfl rfl (by decide) rfl rfl ?_
    refine wp_goto (tgt := 57) dX0_gather_182 (by decide) ?_
    exact wp_mask [true, false, true, false, false] rfl h
  · replace h := h.1 c1
    refine wp_aload_n dX0_gather_83 rfl rfl ?_
    refine wp_getR (b := 29) dX0_gather_84 rfl rfl fb_0_0 m_1_202 ?_
    refine wp_getR (b := 30) dX0_gather_87 rfl rfl fb_3_0 m_1_145 ?_
    refine wp_iload_n dX0_gather_90 rfl rfl ?_
    obtain ⟨b2, h⟩ := h
    refine wp_aald (b := (63 + x2.toNatClampNeg)) (n := 8) dX0_gather_91 rfl (by decide) rfl b2 rfl ?_
    have kb2 : kd (63 + x2.toNatClampNeg) = 4 := (kda_23 (a := 30) rfl (vp_lt b2))
    refine wp_aload_n dX0_gather_92 rfl rfl ?_
    refine wp_getR (b := 29) dX0_gather_93 rfl rfl fb_0_0 m_1_202 ?_
    refine wp_getR (b := 30) dX0_gather_96 rfl rfl fb_3_0 m_1_145 ?_
    refine wp_iload_n dX0_gather_99 rfl rfl ?_
    obtain ⟨b3, h⟩ := h
    refine wp_aald (b := (63 + x3.toNatClampNeg)) (n := 8) dX0_gather_100 rfl (by decide) rfl b3 rfl ?_
    have kb3 : kd (63 + x3.toNatClampNeg) = 4 := (kda_23 (a := 30) rfl (vp_lt b3))
    refine wp_callVI (a := (63 + x2.toNatClampNeg)) (d1 := 4) (As := [.ref (ad G (63 + x3.toNatClampNeg))]) (st := []) dX0_gather_101 kb2 cm_X4_goodWith m_4_10 (by decide) rfl (Nat.le_of_ble_eq_true rfl) rfl h ?_
    intro r5 M4 h
    refine wp_istore (ls' := [some (.ref (ad G 28)), none, some (.int x2), some (.int x3), some (.int r5)]) dX0_gather_104 (by decide) rfl rfl ?_
    refine wp_aload_n dX0_gather_106 rfl rfl ?_
    refine wp_getR (b := 29) dX0_gather_107 rfl rfl fb_0_0 m_1_202 ?_
    refine wp_iload_n dX0_gather_110 rfl rfl ?_
    refine wp_callVI (a := 29) (d1 := 2) (As := [.int x2]) (st := []) dX0_gather_111 rfl cm_X3_isInside m_4_11 (by decide) rfl (Nat.le_of_ble_eq_true rfl) rfl h ?_
    intro r7 M6 h
    refine wp_if_eq (tgt := 173) dX0_gather_114 (by decide) (fun c8 => ?_) (fun c8 => ?_)
    · replace h := h.1 c8
      refine wp_iinc (v := (x3 + 1)) (ls' := [some (.ref (ad G 28)), none, some (.int x2), some (.int (x3 + 1)), some (.int r5)]) dX0_gather_173 rfl rfl (by decide) rfl rfl ?_
      refine wp_goto (tgt := 72) dX0_gather_176 (by decide) ?_
      exact wp_mask [true, false, true, true, false] rfl h
    · replace h := h.2 c8
      refine wp_aload_n dX0_gather_117 rfl rfl ?_
      refine wp_getR (b := 29) dX0_gather_118 rfl rfl fb_0_0 m_1_202 ?_
      refine wp_iload_n dX0_gather_121 rfl rfl ?_
      refine wp_callVI (a := 29) (d1 := 2) (As := [.int x3]) (st := []) dX0_gather_122 rfl cm_X3_isInside m_4_11 (by decide) rfl (Nat.le_of_ble_eq_true rfl) rfl h ?_
      intro r10 M9 h
      refine wp_if_eq (tgt := 173) dX0_gather_125 (by decide) (fun c11 => ?_) (fun c11 => ?_)
      · replace h := h.1 c11
        refine wp_iinc (v := (x3 + 1)) (ls' := [some (.ref (ad G 28)), none, some (.int x2), some (.int (x3 + 1)), some (.int r5)]) dX0_gather_173 rfl rfl (by decide) rfl rfl ?_
        refine wp_goto (tgt := 72) dX0_gather_176 (by decide) ?_
        exact wp_mask [true, false, true, true, false] rfl h
      · replace h := h.2 c11
        refine wp_iload dX0_gather_128 rfl ?_
        refine wp_bipush (v := (-9 : Int32)) dX0_gather_130 (by decide) ?_
        refine wp_icmp_eq (tgt := 173) dX0_gather_132 (by decide) (fun c12 => ?_) (fun c12 => ?_)
        · replace h := h.1 c12
          refine wp_iinc (v := (x3 + 1)) (ls' := [some (.ref (ad G 28)), none, some (.int x2), some (.int (x3 + 1)), some (.int r5)]) dX0_gather_173 rfl rfl (by decide) rfl rfl ?_
          refine wp_goto (tgt := 72) dX0_gather_176 (by decide) ?_
          exact wp_mask [true, false, true, true, false] rfl h
        · replace h := h.2 c12
          refine wp_aload_n dX0_gather_135 rfl rfl ?_
          refine wp_getR (b := 33) dX0_gather_136 rfl rfl fb_0_1 m_1_203 ?_
          refine wp_aload_n dX0_gather_139 rfl rfl ?_
          refine wp_getI dX0_gather_140 rfl fb_0_4 m_1_206 ?_
          refine wp_bipush (v := 10) dX0_gather_143 (by decide) ?_
          refine wp_iload_n dX0_gather_145 rfl rfl ?_
          refine wp_imul dX0_gather_146 ?_
          refine wp_iload_n dX0_gather_147 rfl rfl ?_
          refine wp_iadd dX0_gather_148 ?_
          obtain ⟨b13, h⟩ := h
          refine wp_iast (n := 64) dX0_gather_149 rfl rfl b13 ?_
          refine wp_topM (fun M14 hM14 => ?_)
          replace h := h M14 hM14
          refine wp_aload_n dX0_gather_150 rfl rfl ?_
          refine wp_dup dX0_gather_151 rfl ?_
          refine wp_getI dX0_gather_152 rfl fb_0_4 m_1_206 ?_
          refine wp_iconst (v := 1) dX0_gather_155 (by decide) ?_
          refine wp_iadd dX0_gather_156 ?_
          refine wp_putI dX0_gather_157 rfl fp_0_4 m_1_206 ?_
          refine wp_topM (fun M15 hM15 => ?_)
          replace h := h M15 hM15
          refine wp_aload_n dX0_gather_160 rfl rfl ?_
          refine wp_aload_n dX0_gather_161 rfl rfl ?_
          refine wp_getI dX0_gather_162 rfl fb_0_5 m_1_207 ?_
          refine wp_iload dX0_gather_165 rfl ?_
          refine wp_max m_4_12 (by decide) mw_max (Nat.le_of_ble_eq_true rfl) dX0_gather_167 ?_
          refine wp_putI dX0_gather_170 rfl fp_0_5 m_1_207 ?_
          refine wp_topM (fun M16 hM16 => ?_)
          replace h := h M16 hM16
          refine wp_iinc (v := (x3 + 1)) (ls' := [some (.ref (ad G 28)), none, some (.int x2), some (.int (x3 + 1)), some (.int r5)]) dX0_gather_173 rfl rfl (by decide) rfl rfl ?_
          refine wp_goto (tgt := 72) dX0_gather_176 (by decide) ?_
          exact wp_mask [true, false, true, true, false] rfl h
abbrev C_X0_gather (G : Glob)  (M : Mem) (Q : Option Value → Mem → Prop) : Prop := WpM G 5 Y_X0_gather [.ref (ad G 28), .ref (ad G 12)] M Q
set_option maxRecDepth 20000 in
theorem v_X0_gather {G : Glob} {M : Mem} {Q : Option Value → Mem → Prop}  (h : (∀ M1 : Mem, M1 = upI M 29 2 (M.1 12 2) → P_X0_gather_13 G 0 M1 Q)) : C_X0_gather G  M Q := by
  refine wp_enter (ls0 := [some (.ref (ad G 28)), some (.ref (ad G 12)), none, none, none]) (by decide +kernel) (Nat.le_of_ble_eq_true rfl) rfl ?_
  refine wp_aload_n dX0_gather_0 rfl rfl ?_
  refine wp_getR (b := 29) dX0_gather_1 rfl rfl fb_0_0 m_1_202 ?_
  refine wp_aload_n dX0_gather_4 rfl rfl ?_
  refine wp_getI dX0_gather_5 rfl fb_3_2 m_1_153 ?_
  refine wp_putI dX0_gather_8 rfl fp_3_2 m_1_153 ?_
  refine wp_topM (fun M1 hM1 => ?_)
  replace h := h M1 hM1
  refine wp_iconst (v := 0) dX0_gather_11 (by decide) ?_
  refine wp_istore_n (ls' := [some (.ref (ad G 28)), some (.ref (ad G 12)), some (.int 0), none, none]) dX0_gather_12 rfl (by decide) rfl rfl ?_
  exact h
abbrev P_X0_search_36 (G : Glob) (d : Nat) (x4 : Int32) (M : Mem) (Q : Option Value → Mem → Prop) : Prop := Wp G (d + 1) Y_X0_search 36 [some (.ref (ad G 28)), none, none, none, some (.int x4), none, none, none] [] M Q
abbrev P_X0_search_66 (G : Glob) (d : Nat) (x1 : Int32) (x2 : Int32) (x3 : Int32) (x4 : Int32) (M : Mem) (Q : Option Value → Mem → Prop) : Prop := Wp G (d + 1) Y_X0_search 66 [some (.ref (ad G 28)), some (.int x1), some (.int x2), some (.int x3), some (.int x4), none, none, none] [] M Q
set_option maxRecDepth 20000 in
theorem v_X0_search_36 {G : Glob} {d : Nat} {x4 : Int32} {M : Mem} {Q : Option Value → Mem → Prop} (hd : 5 ≤ d)  (h : ((x4 < 3 → (vp_in x4 3 ∧ (vp_in x4 3 ∧ (∀ M4 : Mem, M4 = upI M 35 (x4.toNatClampNeg) (M.1 34 x4.toNatClampNeg) → P_X0_search_36 G d (x4 + 1) M4 Q)))) ∧ (¬ x4 < 3 → Q none M))) : P_X0_search_36 G d x4 M Q := by
  refine wp_iload dX0_search_36 rfl ?_
  refine wp_iconst (v := 3) dX0_search_38 (by decide) ?_
  refine wp_icmp_ge (tgt := 62) dX0_search_39 (by decide) (fun c1 => ?_) (fun c1 => ?_)
  · replace h := h.2 c1
    exact wp_vret dX0_search_62 rfl h
  · replace h := h.1 c1
    refine wp_aload_n dX0_search_42 rfl rfl ?_
    refine wp_getR (b := 35) dX0_search_43 rfl rfl fb_0_3 m_1_205 ?_
    refine wp_iload dX0_search_46 rfl ?_
    refine wp_aload_n dX0_search_48 rfl rfl ?_
    refine wp_getR (b := 34) dX0_search_49 rfl rfl fb_0_2 m_1_204 ?_
    refine wp_iload dX0_search_52 rfl ?_
    obtain ⟨b2, h⟩ := h
    refine wp_iald (n := 3) dX0_search_54 rfl rfl b2 ?_
    obtain ⟨b3, h⟩ := h
    refine wp_iast (n := 3) dX0_search_55 rfl rfl b3 ?_
    refine wp_topM (fun M4 hM4 => ?_)
    replace h := h M4 hM4
    refine wp_iinc (v := (x4 + 1)) (ls' := [some (.ref (ad G 28)), none, none, none, some (.int (x4 + 1)), none, none, none]) dX0_search_56 rfl rfl (by decide) rfl rfl ?_
    refine wp_goto (tgt := 36) dX0_search_59 (by decide) ?_
    exact h
set_option maxRecDepth 20000 in
theorem v_X0_search_66 {G : Glob} {d : Nat} {x1 : Int32} {x2 : Int32} {x3 : Int32} {x4 : Int32} {M : Mem} {Q : Option Value → Mem → Prop} (hd : 5 ≤ d)  (h : ((x4 < (M.1 28 4) → (vp_in x4 64 ∧ (vp_in ((M.1 33 x4.toNatClampNeg) / 10) 8 ∧ (vp_in x4 64 ∧ (vp_in ((M.1 33 x4.toNatClampNeg) - (M.1 33 x4.toNatClampNeg) / 10 * 10) 8 ∧ (WpM G 4 Y_X4_goodWith [.ref (ad G (63 + ((M.1 33 x4.toNatClampNeg) / 10).toNatClampNeg)), .ref (ad G (63 + ((M.1 33 x4.toNatClampNeg) - (M.1 33 x4.toNatClampNeg) / 10 * 10).toNatClampNeg))] M (RI (fun r7 M6 => (vp_in x4 64 ∧ (vp_in x1 3 ∧ (∀ M10 : Mem, M10 = upI M6 34 (x1.toNatClampNeg) (M6.1 33 x4.toNatClampNeg) → (∀ M11 : Mem, M11 = upI M10 (63 + ((M.1 33 x4.toNatClampNeg) / 10).toNatClampNeg) 4 ((M10.1 (63 + ((M.1 33 x4.toNatClampNeg) / 10).toNatClampNeg) 4) + 1) → (∀ M12 : Mem, M12 = upI M11 (63 + ((M.1 33 x4.toNatClampNeg) - (M.1 33 x4.toNatClampNeg) / 10 * 10).toNatClampNeg) 4 ((M11.1 (63 + ((M.1 33 x4.toNatClampNeg) - (M.1 33 x4.toNatClampNeg) / 10 * 10).toNatClampNeg) 4) + 1) → (WpM G d Y_X0_search [.ref (ad G 28), .int (x1 + 1), .int x2, .int (x3 + r7)] M12 (RV (fun M13 => (∀ M14 : Mem, M14 = upI M13 (63 + ((M.1 33 x4.toNatClampNeg) / 10).toNatClampNeg) 4 ((M13.1 (63 + ((M.1 33 x4.toNatClampNeg) / 10).toNatClampNeg) 4) - 1) → (∀ M15 : Mem, M15 = upI M14 (63 + ((M.1 33 x4.toNatClampNeg) - (M.1 33 x4.toNatClampNeg) / 10 * 10).toNatClampNeg) 4 ((M14.1 (63 + ((M.1 33 x4.toNatClampNeg) - (M.1 33 x4.toNatClampNeg) / 10 * 10).toNatClampNeg) 4) - 1) → P_X0_search_66 G d x1 x2 x3 (x4 + 1) M15 Q)))))))))))))))))) ∧ (¬ x4 < (M.1 28 4) → Q none M))) : P_X0_search_66 G d x1 x2 x3 x4 M Q := by
  refine wp_iload dX0_search_66 rfl ?_
  refine wp_aload_n dX0_search_68 rfl rfl ?_
  refine wp_getI dX0_search_69 rfl fb_0_4 m_1_206 ?_
  refine wp_icmp_ge (tgt := 199) dX0_search_72 (by decide) (fun c1 => ?_) (fun c1 => ?_)
  · replace h := h.2 c1
    exact wp_vret dX0_search_199 rfl h
  · replace h := h.1 c1
    refine wp_aload_n dX0_search_75 rfl rfl ?_
    refine wp_getR (b := 29) dX0_search_76 rfl rfl fb_0_0 m_1_202 ?_
    refine wp_getR (b := 30) dX0_search_79 rfl rfl fb_3_0 m_1_145 ?_
    refine wp_aload_n dX0_search_82 rfl rfl ?_
    refine wp_getR (b := 33) dX0_search_83 rfl rfl fb_0_1 m_1_203 ?_
    refine wp_iload dX0_search_86 rfl ?_
    obtain ⟨b2, h⟩ := h
    refine wp_iald (n := 64) dX0_search_88 rfl rfl b2 ?_
    refine wp_bipush (v := 10) dX0_search_89 (by decide) ?_
    refine wp_idiv dX0_search_91 (by decide) ?_
    obtain ⟨b3, h⟩ := h
    refine wp_aald (b := (63 + ((M.1 33 x4.toNatClampNeg) / 10).toNatClampNeg)) (n := 8) dX0_search_92 rfl (by decide) rfl b3 rfl ?_
    have kb3 : kd (63 + ((M.1 33 x4.toNatClampNeg) / 10).toNatClampNeg) = 4 := (kda_23 (a := 30) rfl (vp_lt b3))
    refine wp_astore (ls' := [some (.ref (ad G 28)), some (.int x1), some (.int x2), some (.int x3), some (.int x4), some (.ref (ad G (63 + ((M.1 33 x4.toNatClampNeg) / 10).toNatClampNeg))), none, none]) dX0_search_93 (by decide) rfl rfl ?_
    refine wp_aload_n dX0_search_95 rfl rfl ?_
    refine wp_getR (b := 29) dX0_search_96 rfl rfl fb_0_0 m_1_202 ?_
    refine wp_getR (b := 30) dX0_search_99 rfl rfl fb_3_0 m_1_145 ?_
    refine wp_aload_n dX0_search_102 rfl rfl ?_
    refine wp_getR (b := 33) dX0_search_103 rfl rfl fb_0_1 m_1_203 ?_
    refine wp_iload dX0_search_106 rfl ?_
    obtain ⟨b4, h⟩ := h
    refine wp_iald (n := 64) dX0_search_108 rfl rfl b4 ?_
    refine wp_bipush (v := 10) dX0_search_109 (by decide) ?_
    refine wp_irem dX0_search_111 (by decide) ?_
    obtain ⟨b5, h⟩ := h
    refine wp_aald (b := (63 + ((M.1 33 x4.toNatClampNeg) - (M.1 33 x4.toNatClampNeg) / 10 * 10).toNatClampNeg)) (n := 8) dX0_search_112 rfl (by decide) rfl b5 rfl ?_
    have kb5 : kd (63 + ((M.1 33 x4.toNatClampNeg) - (M.1 33 x4.toNatClampNeg) / 10 * 10).toNatClampNeg) = 4 := (kda_23 (a := 30) rfl (vp_lt b5))
    refine wp_astore (ls' := [some (.ref (ad G 28)), some (.int x1), some (.int x2), some (.int x3), some (.int x4), some (.ref (ad G (63 + ((M.1 33 x4.toNatClampNeg) / 10).toNatClampNeg))), some (.ref (ad G (63 + ((M.1 33 x4.toNatClampNeg) - (M.1 33 x4.toNatClampNeg) / 10 * 10).toNatClampNeg))), none]) dX0_search_113 (by decide) rfl rfl ?_
    refine wp_aload dX0_search_115 rfl ?_
    refine wp_aload dX0_search_117 rfl ?_
    refine wp_callVI (a := (63 + ((M.1 33 x4.toNatClampNeg) / 10).toNatClampNeg)) (d1 := 4) (As := [.ref (ad G (63 + ((M.1 33 x4.toNatClampNeg) - (M.1 33 x4.toNatClampNeg) / 10 * 10).toNatClampNeg))]) (st := []) dX0_search_119 kb3 cm_X4_goodWith m_4_10 (by omega) rfl (Nat.le_of_ble_eq_true rfl) rfl h ?_
    intro r7 M6 h
    refine wp_istore (ls' := [some (.ref (ad G 28)), some (.int x1), some (.int x2), some (.int x3), some (.int x4), some (.ref (ad G (63 + ((M.1 33 x4.toNatClampNeg) / 10).toNatClampNeg))), some (.ref (ad G (63 + ((M.1 33 x4.toNatClampNeg) - (M.1 33 x4.toNatClampNeg) / 10 * 10).toNatClampNeg))), some (.int r7)]) dX0_search_122 (by decide) rfl rfl ?_
    refine wp_aload_n dX0_search_124 rfl rfl ?_
    refine wp_getR (b := 34) dX0_search_125 rfl rfl fb_0_2 m_1_204 ?_
    refine wp_iload_n dX0_search_128 rfl rfl ?_
    refine wp_aload_n dX0_search_129 rfl rfl ?_
    refine wp_getR (b := 33) dX0_search_130 rfl rfl fb_0_1 m_1_203 ?_
    refine wp_iload dX0_search_133 rfl ?_
    obtain ⟨b8, h⟩ := h
    refine wp_iald (n := 64) dX0_search_135 rfl rfl b8 ?_
    obtain ⟨b9, h⟩ := h
    refine wp_iast (n := 3) dX0_search_136 rfl rfl b9 ?_
    refine wp_topM (fun M10 hM10 => ?_)
    replace h := h M10 hM10
    refine wp_aload dX0_search_137 rfl ?_
    refine wp_dup dX0_search_139 rfl ?_
    refine wp_getI dX0_search_140 kb3 fb_4_4 m_1_123 ?_
    refine wp_iconst (v := 1) dX0_search_143 (by decide) ?_
    refine wp_iadd dX0_search_144 ?_
    refine wp_putI dX0_search_145 kb3 fp_4_4 m_1_123 ?_
    refine wp_topM (fun M11 hM11 => ?_)
    replace h := h M11 hM11
    refine wp_aload dX0_search_148 rfl ?_
    refine wp_dup dX0_search_150 rfl ?_
    refine wp_getI dX0_search_151 kb5 fb_4_4 m_1_123 ?_
    refine wp_iconst (v := 1) dX0_search_154 (by decide) ?_
    refine wp_iadd dX0_search_155 ?_
    refine wp_putI dX0_search_156 kb5 fp_4_4 m_1_123 ?_
    refine wp_topM (fun M12 hM12 => ?_)
    replace h := h M12 hM12
    refine wp_aload_n dX0_search_159 rfl rfl ?_
    refine wp_iload_n dX0_search_160 rfl rfl ?_
    refine wp_iconst (v := 1) dX0_search_161 (by decide) ?_
    refine wp_iadd dX0_search_162 ?_
    refine wp_iload_n dX0_search_163 rfl rfl ?_
    refine wp_iload_n dX0_search_164 rfl rfl ?_
    refine wp_iload dX0_search_165 rfl ?_
    refine wp_iadd dX0_search_167 ?_
    refine wp_callSV (d1 := d) (As := [.ref (ad G 28), .int (x1 + 1), .int x2, .int (x3 + r7)]) (st := []) dX0_search_168 cm_X0_search m_4_13 (by omega) rfl (Nat.le_of_ble_eq_true rfl) rfl h ?_
    intro M13 h
    refine wp_aload dX0_search_171 rfl ?_
    refine wp_dup dX0_search_173 rfl ?_
    refine wp_getI dX0_search_174 kb3 fb_4_4 m_1_123 ?_
    refine wp_iconst (v := 1) dX0_search_177 (by decide) ?_
    refine wp_isub dX0_search_178 ?_
    refine wp_putI dX0_search_179 kb3 fp_4_4 m_1_123 ?_
    refine wp_topM (fun M14 hM14 => ?_)
    replace h := h M14 hM14
    refine wp_aload dX0_search_182 rfl ?_
    refine wp_dup dX0_search_184 rfl ?_
    refine wp_getI dX0_search_185 kb5 fb_4_4 m_1_123 ?_
    refine wp_iconst (v := 1) dX0_search_188 (by decide) ?_
    refine wp_isub dX0_search_189 ?_
    refine wp_putI dX0_search_190 kb5 fp_4_4 m_1_123 ?_
    refine wp_topM (fun M15 hM15 => ?_)
    replace h := h M15 hM15
    refine wp_iinc (v := (x4 + 1)) (ls' := [some (.ref (ad G 28)), some (.int x1), some (.int x2), some (.int x3), some (.int (x4 + 1)), some (.ref (ad G (63 + ((M.1 33 x4.toNatClampNeg) / 10).toNatClampNeg))), some (.ref (ad G (63 + ((M.1 33 x4.toNatClampNeg) - (M.1 33 x4.toNatClampNeg) / 10 * 10).toNatClampNeg))), some (.int r7)]) dX0_search_193 rfl rfl (by decide) rfl rfl ?_
    refine wp_goto (tgt := 66) dX0_search_196 (by decide) ?_
    exact wp_mask [true, true, true, true, true, false, false, false] rfl h
abbrev C_X0_search (G : Glob) (d : Nat) (x1 : Int32) (x2 : Int32) (x3 : Int32) (M : Mem) (Q : Option Value → Mem → Prop) : Prop := WpM G (d + 1) Y_X0_search [.ref (ad G 28), .int x1, .int x2, .int x3] M Q
set_option maxRecDepth 20000 in
theorem v_X0_search {G : Glob} {d : Nat} {x1 : Int32} {x2 : Int32} {x3 : Int32} {M : Mem} {Q : Option Value → Mem → Prop} (hd : 5 ≤ d)  (h : (((M.1 28 6) < (x3 + ((x2 - x1) * (M.1 28 5))) → ((x1 < x2 → ((x1 < 3 → P_X0_search_66 G d x1 x2 x3 0 M Q) ∧ (¬ x1 < 3 → (∀ M5 : Mem, M5 = upI M 28 6 x3 → P_X0_search_36 G d 0 M5 Q)))) ∧ (¬ x1 < x2 → (∀ M3 : Mem, M3 = upI M 28 6 x3 → P_X0_search_36 G d 0 M3 Q)))) ∧ (¬ (M.1 28 6) < (x3 + ((x2 - x1) * (M.1 28 5))) → Q none M))) : C_X0_search G d x1 x2 x3 M Q := by
  refine wp_enter (ls0 := [some (.ref (ad G 28)), some (.int x1), some (.int x2), some (.int x3), none, none, none, none]) (by decide +kernel) (Nat.le_of_ble_eq_true rfl) rfl ?_
  refine wp_iload_n dX0_search_0 rfl rfl ?_
  refine wp_iload_n dX0_search_1 rfl rfl ?_
  refine wp_iload_n dX0_search_2 rfl rfl ?_
  refine wp_isub dX0_search_3 ?_
  refine wp_aload_n dX0_search_4 rfl rfl ?_
  refine wp_getI dX0_search_5 rfl fb_0_5 m_1_207 ?_
  refine wp_imul dX0_search_8 ?_
  refine wp_iadd dX0_search_9 ?_
  refine wp_aload_n dX0_search_10 rfl rfl ?_
  refine wp_getI dX0_search_11 rfl fb_0_6 m_1_208 ?_
  refine wp_icmp_gt (tgt := 18) dX0_search_14 (by decide) (fun c1 => ?_) (fun c1 => ?_)
  · replace h := h.1 c1
    refine wp_iload_n dX0_search_18 rfl rfl ?_
    refine wp_iload_n dX0_search_19 rfl rfl ?_
    refine wp_icmp_ge (tgt := 28) dX0_search_20 (by decide) (fun c2 => ?_) (fun c2 => ?_)
    · replace h := h.2 c2
      refine wp_aload_n dX0_search_28 rfl rfl ?_
      refine wp_iload_n dX0_search_29 rfl rfl ?_
      refine wp_putI dX0_search_30 rfl fp_0_6 m_1_208 ?_
      refine wp_topM (fun M3 hM3 => ?_)
      replace h := h M3 hM3
      refine wp_iconst (v := 0) dX0_search_33 (by decide) ?_
      refine wp_istore (ls' := [some (.ref (ad G 28)), some (.int x1), some (.int x2), some (.int x3), some (.int 0), none, none, none]) dX0_search_34 (by decide) rfl rfl ?_
      exact wp_mask [true, false, false, false, true, false, false, false] rfl h
    · replace h := h.1 c2
      refine wp_iload_n dX0_search_23 rfl rfl ?_
      refine wp_iconst (v := 3) dX0_search_24 (by decide) ?_
      refine wp_icmp_lt (tgt := 63) dX0_search_25 (by decide) (fun c4 => ?_) (fun c4 => ?_)
      · replace h := h.1 c4
        refine wp_iconst (v := 0) dX0_search_63 (by decide) ?_
        refine wp_istore (ls' := [some (.ref (ad G 28)), some (.int x1), some (.int x2), some (.int x3), some (.int 0), none, none, none]) dX0_search_64 (by decide) rfl rfl ?_
        exact h
      · replace h := h.2 c4
        refine wp_aload_n dX0_search_28 rfl rfl ?_
        refine wp_iload_n dX0_search_29 rfl rfl ?_
        refine wp_putI dX0_search_30 rfl fp_0_6 m_1_208 ?_
        refine wp_topM (fun M5 hM5 => ?_)
        replace h := h M5 hM5
        refine wp_iconst (v := 0) dX0_search_33 (by decide) ?_
        refine wp_istore (ls' := [some (.ref (ad G 28)), some (.int x1), some (.int x2), some (.int x3), some (.int 0), none, none, none]) dX0_search_34 (by decide) rfl rfl ?_
        exact wp_mask [true, false, false, false, true, false, false, false] rfl h
  · replace h := h.2 c1
    exact wp_vret dX0_search_17 rfl h
