abbrev P_X6_weigh_2 (G : Glob) (x2 : Int32) (M : Mem) (Q : Option Value → Mem → Prop) : Prop := Wp G 5 Y_X6_weigh 2 [some (.ref (ad G 23)), some (.ref (ad G 12)), some (.int x2), none] [] M Q
abbrev P_X6_weigh_12 (G : Glob) (x2 : Int32) (x3 : Int32) (M : Mem) (Q : Option Value → Mem → Prop) : Prop := Wp G 5 Y_X6_weigh 12 [some (.ref (ad G 23)), some (.ref (ad G 12)), some (.int x2), some (.int x3)] [] M Q
abbrev P_X6_weigh_71 (G : Glob) (x2 : Int32) (M : Mem) (Q : Option Value → Mem → Prop) : Prop := Wp G 5 Y_X6_weigh 71 [some (.ref (ad G 23)), some (.ref (ad G 12)), some (.int x2), none] [] M Q
abbrev P_X6_weigh_81 (G : Glob) (x2 : Int32) (x3 : Int32) (M : Mem) (Q : Option Value → Mem → Prop) : Prop := Wp G 5 Y_X6_weigh 81 [some (.ref (ad G 23)), some (.ref (ad G 12)), some (.int x2), some (.int x3)] [] M Q
set_option maxRecDepth 20000 in
theorem v_X6_weigh_2 {G : Glob} {x2 : Int32} {M : Mem} {Q : Option Value → Mem → Prop}  (h : ((x2 < (M.1 12 2) → P_X6_weigh_12 G x2 0 M Q) ∧ (¬ x2 < (M.1 12 2) → (vp_in 0 256 ∧ (∀ M3 : Mem, M3 = upI M 25 ((0 : Int32).toNatClampNeg) 0 → (vp_in 0 256 ∧ (∀ M5 : Mem, M5 = upI M3 26 ((0 : Int32).toNatClampNeg) 0 → P_X6_weigh_71 G 0 M5 Q))))))) : P_X6_weigh_2 G x2 M Q := by
  refine wp_iload_n dX6_weigh_2 rfl rfl ?_
  refine wp_aload_n dX6_weigh_3 rfl rfl ?_
  refine wp_getI dX6_weigh_4 rfl fb_3_2 m_1_150 ?_
  refine wp_icmp_ge (tgt := 55) dX6_weigh_7 (by decide) (fun c1 => ?_) (fun c1 => ?_)
  · replace h := h.2 c1
    refine wp_aload_n dX6_weigh_55 rfl rfl ?_
    refine wp_getR (b := 25) dX6_weigh_56 rfl rfl fb_6_1 m_1_178 ?_
    refine wp_iconst (v := 0) dX6_weigh_59 (by decide) ?_
    refine wp_iconst (v := 0) dX6_weigh_60 (by decide) ?_
    obtain ⟨b2, h⟩ := h
    refine wp_iast (n := 256) dX6_weigh_61 rfl rfl b2 ?_
    refine wp_topM (fun M3 hM3 => ?_)
    replace h := h M3 hM3
    refine wp_aload_n dX6_weigh_62 rfl rfl ?_
    refine wp_getR (b := 26) dX6_weigh_63 rfl rfl fb_6_2 m_1_181 ?_
    refine wp_iconst (v := 0) dX6_weigh_66 (by decide) ?_
    refine wp_iconst (v := 0) dX6_weigh_67 (by decide) ?_
    obtain ⟨b4, h⟩ := h
    refine wp_iast (n := 256) dX6_weigh_68 rfl rfl b4 ?_
    refine wp_topM (fun M5 hM5 => ?_)
    replace h := h M5 hM5
    refine wp_iconst (v := 0) dX6_weigh_69 (by decide) ?_
    refine wp_istore_n (ls' := [some (.ref (ad G 23)), some (.ref (ad G 12)), some (.int 0), none]) dX6_weigh_70 rfl (by decide) rfl rfl ?_
    exact h
  · replace h := h.1 c1
    refine wp_iconst (v := 0) dX6_weigh_10 (by decide) ?_
    refine wp_istore_n (ls' := [some (.ref (ad G 23)), some (.ref (ad G 12)), some (.int x2), some (.int 0)]) dX6_weigh_11 rfl (by decide) rfl rfl ?_
    exact h
set_option maxRecDepth 20000 in
theorem v_X6_weigh_12 {G : Glob} {x2 : Int32} {x3 : Int32} {M : Mem} {Q : Option Value → Mem → Prop}  (h : ((x3 < x2 → (vp_in x2 8 ∧ (vp_in x3 8 ∧ (WpM G 4 Y_X4_goodWith [.ref (ad G (55 + x2.toNatClampNeg)), .ref (ad G (55 + x3.toNatClampNeg))] M (RI (fun r5 M4 => (vp_in (((8 : Int32) * x2) + x3) 64 ∧ (∀ M7 : Mem, M7 = upI M4 24 ((((8 : Int32) * x2) + x3).toNatClampNeg) r5 → P_X6_weigh_12 G x2 (x3 + 1) M7 Q)))))))) ∧ (¬ x3 < x2 → P_X6_weigh_2 G (x2 + 1) M Q))) : P_X6_weigh_12 G x2 x3 M Q := by
  refine wp_iload_n dX6_weigh_12 rfl rfl ?_
  refine wp_iload_n dX6_weigh_13 rfl rfl ?_
  refine wp_icmp_ge (tgt := 49) dX6_weigh_14 (by decide) (fun c1 => ?_) (fun c1 => ?_)
  · replace h := h.2 c1
    refine wp_iinc (v := (x2 + 1)) (ls' := [some (.ref (ad G 23)), some (.ref (ad G 12)), some (.int (x2 + 1)), some (.int x3)]) dX6_weigh_49 rfl rfl (by decide) rfl rfl ?_
    refine wp_goto (tgt := 2) dX6_weigh_52 (by decide) ?_
    exact wp_mask [true, true, true, false] rfl h
  · replace h := h.1 c1
    refine wp_aload_n dX6_weigh_17 rfl rfl ?_
    refine wp_getR (b := 24) dX6_weigh_18 rfl rfl fb_6_0 m_1_177 ?_
    refine wp_bipush (v := 8) dX6_weigh_21 (by decide) ?_
    refine wp_iload_n dX6_weigh_23 rfl rfl ?_
    refine wp_imul dX6_weigh_24 ?_
    refine wp_iload_n dX6_weigh_25 rfl rfl ?_
    refine wp_iadd dX6_weigh_26 ?_
    refine wp_aload_n dX6_weigh_27 rfl rfl ?_
    refine wp_getR (b := 13) dX6_weigh_28 rfl rfl fb_3_0 m_1_143 ?_
    refine wp_iload_n dX6_weigh_31 rfl rfl ?_
    obtain ⟨b2, h⟩ := h
    refine wp_aald (b := (55 + x2.toNatClampNeg)) (n := 8) dX6_weigh_32 rfl (by decide) rfl b2 rfl ?_
    have kb2 : kd (55 + x2.toNatClampNeg) = 4 := (kda_23 (a := 13) rfl (vp_lt b2))
    refine wp_aload_n dX6_weigh_33 rfl rfl ?_
    refine wp_getR (b := 13) dX6_weigh_34 rfl rfl fb_3_0 m_1_143 ?_
    refine wp_iload_n dX6_weigh_37 rfl rfl ?_
    obtain ⟨b3, h⟩ := h
    refine wp_aald (b := (55 + x3.toNatClampNeg)) (n := 8) dX6_weigh_38 rfl (by decide) rfl b3 rfl ?_
    have kb3 : kd (55 + x3.toNatClampNeg) = 4 := (kda_23 (a := 13) rfl (vp_lt b3))
    refine wp_callVI (a := (55 + x2.toNatClampNeg)) (d1 := 4) (As := [.ref (ad G (55 + x3.toNatClampNeg))]) (st := [.int (((8 : Int32) * x2) + x3), .ref (ad G 24)]) dX6_weigh_39 kb2 cm_X4_goodWith m_2_186 (by decide) rfl (Nat.le_of_ble_eq_true rfl) rfl h ?_
    intro r5 M4 h
    obtain ⟨b6, h⟩ := h
    refine wp_iast (n := 64) dX6_weigh_42 rfl rfl b6 ?_
    refine wp_topM (fun M7 hM7 => ?_)
    replace h := h M7 hM7
    refine wp_iinc (v := (x3 + 1)) (ls' := [some (.ref (ad G 23)), some (.ref (ad G 12)), some (.int x2), some (.int (x3 + 1))]) dX6_weigh_43 rfl rfl (by decide) rfl rfl ?_
    refine wp_goto (tgt := 12) dX6_weigh_46 (by decide) ?_
    exact h
set_option maxRecDepth 20000 in
theorem v_X6_weigh_71 {G : Glob} {x2 : Int32} {M : Mem} {Q : Option Value → Mem → Prop}  (h : ((x2 < (M.1 12 2) → P_X6_weigh_81 G x2 0 M Q) ∧ (¬ x2 < (M.1 12 2) → Q none M))) : P_X6_weigh_71 G x2 M Q := by
  refine wp_iload_n dX6_weigh_71 rfl rfl ?_
  refine wp_aload_n dX6_weigh_72 rfl rfl ?_
  refine wp_getI dX6_weigh_73 rfl fb_3_2 m_1_150 ?_
  refine wp_icmp_ge (tgt := 106) dX6_weigh_76 (by decide) (fun c1 => ?_) (fun c1 => ?_)
  · replace h := h.2 c1
    exact wp_vret dX6_weigh_106 rfl h
  · replace h := h.1 c1
    refine wp_iconst (v := 0) dX6_weigh_79 (by decide) ?_
    refine wp_istore_n (ls' := [some (.ref (ad G 23)), some (.ref (ad G 12)), some (.int x2), some (.int 0)]) dX6_weigh_80 rfl (by decide) rfl rfl ?_
    exact h
set_option maxRecDepth 20000 in
theorem v_X6_weigh_81 {G : Glob} {x2 : Int32} {x3 : Int32} {M : Mem} {Q : Option Value → Mem → Prop}  (h : ((x3 < (1 <<< (x2 &&& 31)) → (WpM G 1 Y_X6_weighWith [.ref (ad G 23), .int x2, .int x3] M (RV (fun M2 => P_X6_weigh_81 G x2 (x3 + 1) M2 Q)))) ∧ (¬ x3 < (1 <<< (x2 &&& 31)) → P_X6_weigh_71 G (x2 + 1) M Q))) : P_X6_weigh_81 G x2 x3 M Q := by
  refine wp_iload_n dX6_weigh_81 rfl rfl ?_
  refine wp_iconst (v := 1) dX6_weigh_82 (by decide) ?_
  refine wp_iload_n dX6_weigh_83 rfl rfl ?_
  refine wp_ishl dX6_weigh_84 ?_
  refine wp_icmp_ge (tgt := 100) dX6_weigh_85 (by decide) (fun c1 => ?_) (fun c1 => ?_)
  · replace h := h.2 c1
    refine wp_iinc (v := (x2 + 1)) (ls' := [some (.ref (ad G 23)), some (.ref (ad G 12)), some (.int (x2 + 1)), some (.int x3)]) dX6_weigh_100 rfl rfl (by decide) rfl rfl ?_
    refine wp_goto (tgt := 71) dX6_weigh_103 (by decide) ?_
    exact wp_mask [true, true, true, false] rfl h
  · replace h := h.1 c1
    refine wp_aload_n dX6_weigh_88 rfl rfl ?_
    refine wp_iload_n dX6_weigh_89 rfl rfl ?_
    refine wp_iload_n dX6_weigh_90 rfl rfl ?_
    refine wp_callVV (a := 23) (d1 := 1) (As := [.int x2, .int x3]) (st := []) dX6_weigh_91 rfl cm_X6_weighWith m_2_187 (by decide) rfl (Nat.le_of_ble_eq_true rfl) rfl h ?_
    intro M2 h
    refine wp_iinc (v := (x3 + 1)) (ls' := [some (.ref (ad G 23)), some (.ref (ad G 12)), some (.int x2), some (.int (x3 + 1))]) dX6_weigh_94 rfl rfl (by decide) rfl rfl ?_
    refine wp_goto (tgt := 81) dX6_weigh_97 (by decide) ?_
    exact h
abbrev C_X6_weigh (G : Glob)  (M : Mem) (Q : Option Value → Mem → Prop) : Prop := WpM G 5 Y_X6_weigh [.ref (ad G 23), .ref (ad G 12)] M Q
set_option maxRecDepth 20000 in
theorem v_X6_weigh {G : Glob} {M : Mem} {Q : Option Value → Mem → Prop}  (h : P_X6_weigh_2 G 0 M Q) : C_X6_weigh G  M Q := by
  refine wp_enter (ls0 := [some (.ref (ad G 23)), some (.ref (ad G 12)), none, none]) (by decide +kernel) (Nat.le_of_ble_eq_true rfl) rfl ?_
  refine wp_iconst (v := 0) dX6_weigh_0 (by decide) ?_
  refine wp_istore_n (ls' := [some (.ref (ad G 23)), some (.ref (ad G 12)), some (.int 0), none]) dX6_weigh_1 rfl (by decide) rfl rfl ?_
  exact h
abbrev P_X6_weighWith_33 (G : Glob) (x1 : Int32) (x2 : Int32) (x3 : Int32) (x4 : Int32) (M : Mem) (Q : Option Value → Mem → Prop) : Prop := Wp G 1 Y_X6_weighWith 33 [some (.ref (ad G 23)), some (.int x1), some (.int x2), some (.int x3), some (.int x4), none, none] [] M Q
set_option maxRecDepth 20000 in
theorem v_X6_weighWith_33 {G : Glob} {x1 : Int32} {x2 : Int32} {x3 : Int32} {x4 : Int32} {M : Mem} {Q : Option Value → Mem → Prop}  (h : ((x4 < x1 → (vp_in (((8 : Int32) * x1) + x4) 64 ∧ (∀ y3 : Int32, y3 = (M.1 24 (((8 : Int32) * x1) + x4).toNatClampNeg) → (((x2 &&& (1 <<< (x4 &&& 31))) = 0 → P_X6_weighWith_33 G x1 x2 x3 (x4 + 1) M Q) ∧ (¬ (x2 &&& (1 <<< (x4 &&& 31))) = 0 → ((y3 = (-9 : Int32) → P_X6_weighWith_33 G x1 x2 x3 (x4 + 1) M Q) ∧ (¬ y3 = (-9 : Int32) → (∀ y6 : Int32, y6 = (x2 ^^^ (1 <<< (x4 &&& 31))) → (vp_in x3 256 ∧ (vp_in y6 256 ∧ (vp_in x3 256 ∧ (∀ M10 : Mem, M10 = upI M 25 (x3.toNatClampNeg) (if (M.1 25 x3.toNatClampNeg) < ((M.1 25 y6.toNatClampNeg) + y3) then ((M.1 25 y6.toNatClampNeg) + y3) else (M.1 25 x3.toNatClampNeg)) → (vp_in x3 256 ∧ (vp_in y6 256 ∧ (vp_in x3 256 ∧ (∀ M14 : Mem, M14 = upI M10 26 (x3.toNatClampNeg) (if (M10.1 26 x3.toNatClampNeg) < ((M10.1 26 y6.toNatClampNeg) + 1) then ((M10.1 26 y6.toNatClampNeg) + 1) else (M10.1 26 x3.toNatClampNeg)) → P_X6_weighWith_33 G x1 x2 x3 (x4 + 1) M14 Q)))))))))))))))) ∧ (¬ x4 < x1 → Q none M))) : P_X6_weighWith_33 G x1 x2 x3 x4 M Q := by
  refine wp_iload dX6_weighWith_33 rfl ?_
  refine wp_iload_n dX6_weighWith_35 rfl rfl ?_
  refine wp_icmp_ge (tgt := 132) dX6_weighWith_36 (by decide) (fun c1 => ?_) (fun c1 => ?_)
  · replace h := h.2 c1
    exact wp_vret dX6_weighWith_132 rfl h
  · replace h := h.1 c1
    refine wp_aload_n dX6_weighWith_39 rfl rfl ?_
    refine wp_getR (b := 24) dX6_weighWith_40 rfl rfl fb_6_0 m_1_177 ?_
    refine wp_bipush (v := 8) dX6_weighWith_43 (by decide) ?_
    refine wp_iload_n dX6_weighWith_45 rfl rfl ?_
    refine wp_imul dX6_weighWith_46 ?_
    refine wp_iload dX6_weighWith_47 rfl ?_
    refine wp_iadd dX6_weighWith_49 ?_
    obtain ⟨b2, h⟩ := h
    refine wp_iald (n := 64) dX6_weighWith_50 rfl rfl b2 ?_
    refine wp_topI (fun y3 hy3 => ?_)
    replace h := h y3 hy3
    refine wp_istore (ls' := [some (.ref (ad G 23)), some (.int x1), some (.int x2), some (.int x3), some (.int x4), some (.int y3), none]) dX6_weighWith_51 (by decide) rfl rfl ?_
    refine wp_iload_n dX6_weighWith_53 rfl rfl ?_
    refine wp_iconst (v := 1) dX6_weighWith_54 (by decide) ?_
    refine wp_iload dX6_weighWith_55 rfl ?_
    refine wp_ishl dX6_weighWith_57 ?_
    refine wp_iand dX6_weighWith_58 ?_
    refine wp_if_eq (tgt := 126) dX6_weighWith_59 (by decide) (fun c4 => ?_) (fun c4 => ?_)
    · replace h := h.1 c4
      refine wp_iinc (v := (x4 + 1)) (ls' := [some (.ref (ad G 23)), some (.int x1), some (.int x2), some (.int x3), some (.int (x4 + 1)), some (.int y3), none]) dX6_weighWith_126 rfl rfl (by decide) rfl rfl ?_
      refine wp_goto (tgt := 33) dX6_weighWith_129 (by decide) ?_
      exact wp_mask [true, true, true, true, true, false, false] rfl h
    · replace h := h.2 c4
      refine wp_iload dX6_weighWith_62 rfl ?_
      refine wp_bipush (v := (-9 : Int32)) dX6_weighWith_64 (by decide) ?_
      refine wp_icmp_eq (tgt := 126) dX6_weighWith_66 (by decide) (fun c5 => ?_) (fun c5 => ?_)
      · replace h := h.1 c5
        refine wp_iinc (v := (x4 + 1)) (ls' := [some (.ref (ad G 23)), some (.int x1), some (.int x2), some (.int x3), some (.int (x4 + 1)), some (.int y3), none]) dX6_weighWith_126 rfl rfl (by decide) rfl rfl ?_
        refine wp_goto (tgt := 33) dX6_weighWith_129 (by decide) ?_
        exact wp_mask [true, true, true, true, true, false, false] rfl h
      · replace h := h.2 c5
        refine wp_iload_n dX6_weighWith_69 rfl rfl ?_
        refine wp_iconst (v := 1) dX6_weighWith_70 (by decide) ?_
        refine wp_iload dX6_weighWith_71 rfl ?_
        refine wp_ishl dX6_weighWith_73 ?_
        refine wp_ixor dX6_weighWith_74 ?_
        refine wp_topI (fun y6 hy6 => ?_)
        replace h := h y6 hy6
        refine wp_istore (ls' := [some (.ref (ad G 23)), some (.int x1), some (.int x2), some (.int x3), some (.int x4), some (.int y3), some (.int y6)]) dX6_weighWith_75 (by decide) rfl rfl ?_
        refine wp_aload_n dX6_weighWith_77 rfl rfl ?_
        refine wp_getR (b := 25) dX6_weighWith_78 rfl rfl fb_6_1 m_1_178 ?_
        refine wp_iload_n dX6_weighWith_81 rfl rfl ?_
        refine wp_aload_n dX6_weighWith_82 rfl rfl ?_
        refine wp_getR (b := 25) dX6_weighWith_83 rfl rfl fb_6_1 m_1_178 ?_
        refine wp_iload_n dX6_weighWith_86 rfl rfl ?_
        obtain ⟨b7, h⟩ := h
        refine wp_iald (n := 256) dX6_weighWith_87 rfl rfl b7 ?_
        refine wp_aload_n dX6_weighWith_88 rfl rfl ?_
        refine wp_getR (b := 25) dX6_weighWith_89 rfl rfl fb_6_1 m_1_178 ?_
        refine wp_iload dX6_weighWith_92 rfl ?_
        obtain ⟨b8, h⟩ := h
        refine wp_iald (n := 256) dX6_weighWith_94 rfl rfl b8 ?_
        refine wp_iload dX6_weighWith_95 rfl ?_
        refine wp_iadd dX6_weighWith_97 ?_
        refine wp_max m_2_191 (by decide) mw_max (Nat.le_of_ble_eq_true rfl) dX6_weighWith_98 ?_
        obtain ⟨b9, h⟩ := h
        refine wp_iast (n := 256) dX6_weighWith_101 rfl rfl b9 ?_
        refine wp_topM (fun M10 hM10 => ?_)
        replace h := h M10 hM10
        refine wp_aload_n dX6_weighWith_102 rfl rfl ?_
        refine wp_getR (b := 26) dX6_weighWith_103 rfl rfl fb_6_2 m_1_181 ?_
        refine wp_iload_n dX6_weighWith_106 rfl rfl ?_
        refine wp_aload_n dX6_weighWith_107 rfl rfl ?_
        refine wp_getR (b := 26) dX6_weighWith_108 rfl rfl fb_6_2 m_1_181 ?_
        refine wp_iload_n dX6_weighWith_111 rfl rfl ?_
        obtain ⟨b11, h⟩ := h
        refine wp_iald (n := 256) dX6_weighWith_112 rfl rfl b11 ?_
        refine wp_aload_n dX6_weighWith_113 rfl rfl ?_
        refine wp_getR (b := 26) dX6_weighWith_114 rfl rfl fb_6_2 m_1_181 ?_
        refine wp_iload dX6_weighWith_117 rfl ?_
        obtain ⟨b12, h⟩ := h
        refine wp_iald (n := 256) dX6_weighWith_119 rfl rfl b12 ?_
        refine wp_iconst (v := 1) dX6_weighWith_120 (by decide) ?_
        refine wp_iadd dX6_weighWith_121 ?_
        refine wp_max m_2_191 (by decide) mw_max (Nat.le_of_ble_eq_true rfl) dX6_weighWith_122 ?_
        obtain ⟨b13, h⟩ := h
        refine wp_iast (n := 256) dX6_weighWith_125 rfl rfl b13 ?_
        refine wp_topM (fun M14 hM14 => ?_)
        replace h := h M14 hM14
        refine wp_iinc (v := (x4 + 1)) (ls' := [some (.ref (ad G 23)), some (.int x1), some (.int x2), some (.int x3), some (.int (x4 + 1)), some (.int y3), some (.int y6)]) dX6_weighWith_126 rfl rfl (by decide) rfl rfl ?_
        refine wp_goto (tgt := 33) dX6_weighWith_129 (by decide) ?_
        exact wp_mask [true, true, true, true, true, false, false] rfl h
abbrev C_X6_weighWith (G : Glob) (x1 : Int32) (x2 : Int32) (M : Mem) (Q : Option Value → Mem → Prop) : Prop := WpM G 1 Y_X6_weighWith [.ref (ad G 23), .int x1, .int x2] M Q
set_option maxRecDepth 20000 in
theorem v_X6_weighWith {G : Glob} {x1 : Int32} {x2 : Int32} {M : Mem} {Q : Option Value → Mem → Prop}  (h : (∀ y1 : Int32, y1 = (x2 ||| (1 <<< (x1 &&& 31))) → (vp_in x2 256 ∧ (vp_in y1 256 ∧ (∀ M4 : Mem, M4 = upI M 25 (y1.toNatClampNeg) (M.1 25 x2.toNatClampNeg) → (vp_in x2 256 ∧ (vp_in y1 256 ∧ (∀ M7 : Mem, M7 = upI M4 26 (y1.toNatClampNeg) (M4.1 26 x2.toNatClampNeg) → P_X6_weighWith_33 G x1 x2 y1 0 M7 Q)))))))) : C_X6_weighWith G x1 x2 M Q := by
  refine wp_enter (ls0 := [some (.ref (ad G 23)), some (.int x1), some (.int x2), none, none, none, none]) (by decide +kernel) (Nat.le_of_ble_eq_true rfl) rfl ?_
  refine wp_iload_n dX6_weighWith_0 rfl rfl ?_
  refine wp_iconst (v := 1) dX6_weighWith_1 (by decide) ?_
  refine wp_iload_n dX6_weighWith_2 rfl rfl ?_
  refine wp_ishl dX6_weighWith_3 ?_
  refine wp_ior dX6_weighWith_4 ?_
  refine wp_topI (fun y1 hy1 => ?_)
  replace h := h y1 hy1
  refine wp_istore_n (ls' := [some (.ref (ad G 23)), some (.int x1), some (.int x2), some (.int y1), none, none, none]) dX6_weighWith_5 rfl (by decide) rfl rfl ?_
  refine wp_aload_n dX6_weighWith_6 rfl rfl ?_
  refine wp_getR (b := 25) dX6_weighWith_7 rfl rfl fb_6_1 m_1_178 ?_
  refine wp_iload_n dX6_weighWith_10 rfl rfl ?_
  refine wp_aload_n dX6_weighWith_11 rfl rfl ?_
  refine wp_getR (b := 25) dX6_weighWith_12 rfl rfl fb_6_1 m_1_178 ?_
  refine wp_iload_n dX6_weighWith_15 rfl rfl ?_
  obtain ⟨b2, h⟩ := h
  refine wp_iald (n := 256) dX6_weighWith_16 rfl rfl b2 ?_
  obtain ⟨b3, h⟩ := h
  refine wp_iast (n := 256) dX6_weighWith_17 rfl rfl b3 ?_
  refine wp_topM (fun M4 hM4 => ?_)
  replace h := h M4 hM4
  refine wp_aload_n dX6_weighWith_18 rfl rfl ?_
  refine wp_getR (b := 26) dX6_weighWith_19 rfl rfl fb_6_2 m_1_181 ?_
  refine wp_iload_n dX6_weighWith_22 rfl rfl ?_
  refine wp_aload_n dX6_weighWith_23 rfl rfl ?_
  refine wp_getR (b := 26) dX6_weighWith_24 rfl rfl fb_6_2 m_1_181 ?_
  refine wp_iload_n dX6_weighWith_27 rfl rfl ?_
  obtain ⟨b5, h⟩ := h
  refine wp_iald (n := 256) dX6_weighWith_28 rfl rfl b5 ?_
  obtain ⟨b6, h⟩ := h
  refine wp_iast (n := 256) dX6_weighWith_29 rfl rfl b6 ?_
  refine wp_topM (fun M7 hM7 => ?_)
  replace h := h M7 hM7
  refine wp_iconst (v := 0) dX6_weighWith_30 (by decide) ?_
  refine wp_istore (ls' := [some (.ref (ad G 23)), some (.int x1), some (.int x2), some (.int y1), some (.int 0), none, none]) dX6_weighWith_31 (by decide) rfl rfl ?_
  exact h
abbrev P_X6_partTo_12 (G : Glob) (x3 : Int32) (x4 : Int32) (M : Mem) (Q : Option Value → Mem → Prop) : Prop := Wp G 5 Y_X6_partTo 12 [some (.ref (ad G 23)), some (.ref (ad G 12)), some (.ref (ad G 1)), some (.int x3), some (.int x4), none, none] [] M Q
abbrev P_X6_partTo_46 (G : Glob) (x3 : Int32) (x4 : Int32) (x5 : Int32) (M : Mem) (Q : Option Value → Mem → Prop) : Prop := Wp G 5 Y_X6_partTo 46 [some (.ref (ad G 23)), some (.ref (ad G 12)), some (.ref (ad G 1)), some (.int x3), some (.int x4), some (.int x5), none] [] M Q
set_option maxRecDepth 20000 in
theorem v_X6_partTo_12 {G : Glob} {x3 : Int32} {x4 : Int32} {M : Mem} {Q : Option Value → Mem → Prop}  (h : ((x4 < (M.1 12 2) → (WpM G 4 Y_X9_write [.ref (ad G 1), .int x3, .int x4, .int (-9 : Int32)] M (RV (fun M4 => P_X6_partTo_12 G x3 (x4 + 1) M4 Q)))) ∧ (¬ x4 < (M.1 12 2) → (WpM G 1 Y_X3_setOf [.ref (ad G 12), .int 0] M (RI (fun r3 M2 => P_X6_partTo_46 G x3 r3 0 M2 Q)))))) : P_X6_partTo_12 G x3 x4 M Q := by
  refine wp_iload dX6_partTo_12 rfl ?_
  refine wp_aload_n dX6_partTo_14 rfl rfl ?_
  refine wp_getI dX6_partTo_15 rfl fb_3_2 m_1_150 ?_
  refine wp_icmp_ge (tgt := 36) dX6_partTo_18 (by decide) (fun c1 => ?_) (fun c1 => ?_)
  · replace h := h.2 c1
    refine wp_aload_n dX6_partTo_36 rfl rfl ?_
    refine wp_iconst (v := 0) dX6_partTo_37 (by decide) ?_
    refine wp_callVI (a := 12) (d1 := 1) (As := [.int 0]) (st := []) dX6_partTo_38 rfl cm_X3_setOf m_2_196 (by decide) rfl (Nat.le_of_ble_eq_true rfl) rfl h ?_
    intro r3 M2 h
    refine wp_istore (ls' := [some (.ref (ad G 23)), some (.ref (ad G 12)), some (.ref (ad G 1)), some (.int x3), some (.int r3), none, none]) dX6_partTo_41 (by decide) rfl rfl ?_
    refine wp_iconst (v := 0) dX6_partTo_43 (by decide) ?_
    refine wp_istore (ls' := [some (.ref (ad G 23)), some (.ref (ad G 12)), some (.ref (ad G 1)), some (.int x3), some (.int r3), some (.int 0), none]) dX6_partTo_44 (by decide) rfl rfl ?_
    exact h
  · replace h := h.1 c1
    refine wp_aload_n dX6_partTo_21 rfl rfl ?_
    refine wp_iload_n dX6_partTo_22 rfl rfl ?_
    refine wp_iload dX6_partTo_23 rfl ?_
    refine wp_bipush (v := (-9 : Int32)) dX6_partTo_25 (by decide) ?_
    refine wp_callVV (a := 1) (d1 := 4) (As := [.int x3, .int x4, .int (-9 : Int32)]) (st := []) dX6_partTo_27 rfl cm_X9_write m_3_232 (by decide) rfl (Nat.le_of_ble_eq_true rfl) rfl h ?_
    intro M4 h
    refine wp_iinc (v := (x4 + 1)) (ls' := [some (.ref (ad G 23)), some (.ref (ad G 12)), some (.ref (ad G 1)), some (.int x3), some (.int (x4 + 1)), none, none]) dX6_partTo_30 rfl rfl (by decide) rfl rfl ?_
    refine wp_goto (tgt := 12) dX6_partTo_33 (by decide) ?_
    exact h
set_option maxRecDepth 20000 in
theorem v_X6_partTo_46 {G : Glob} {x3 : Int32} {x4 : Int32} {x5 : Int32} {M : Mem} {Q : Option Value → Mem → Prop}  (h : ((x5 < (M.1 12 2) → (((x4 &&& (1 <<< (x5 &&& 31))) = 0 → P_X6_partTo_46 G x3 x4 (x5 + 1) M Q) ∧ (¬ (x4 &&& (1 <<< (x5 &&& 31))) = 0 → (WpM G 1 Y_X6_firstMate [.ref (ad G 23), .ref (ad G 12), .int x5, .int x4] M (RI (fun r4 M3 => (∀ y5 : Int32, y5 = (x4 ^^^ (1 <<< (x5 &&& 31))) → ((r4 = (-9 : Int32) → P_X6_partTo_46 G x3 y5 (x5 + 1) M3 Q) ∧ (¬ r4 = (-9 : Int32) → (∀ y7 : Int32, y7 = (y5 ^^^ (1 <<< (r4 &&& 31))) → (WpM G 4 Y_X9_write [.ref (ad G 1), .int x3, .int x5, .int r4] M3 (RV (fun M8 => (WpM G 4 Y_X9_write [.ref (ad G 1), .int x3, .int r4, .int x5] M8 (RV (fun M9 => P_X6_partTo_46 G x3 y7 (x5 + 1) M9 Q)))))))))))))))) ∧ (¬ x5 < (M.1 12 2) → Q none M))) : P_X6_partTo_46 G x3 x4 x5 M Q := by
  refine wp_iload dX6_partTo_46 rfl ?_
  refine wp_aload_n dX6_partTo_48 rfl rfl ?_
  refine wp_getI dX6_partTo_49 rfl fb_3_2 m_1_150 ?_
  refine wp_icmp_ge (tgt := 125) dX6_partTo_52 (by decide) (fun c1 => ?_) (fun c1 => ?_)
  · replace h := h.2 c1
    exact wp_vret dX6_partTo_125 rfl h
  · replace h := h.1 c1
    refine wp_iload dX6_partTo_55 rfl ?_
    refine wp_iconst (v := 1) dX6_partTo_57 (by decide) ?_
    refine wp_iload dX6_partTo_58 rfl ?_
    refine wp_ishl dX6_partTo_60 ?_
    refine wp_iand dX6_partTo_61 ?_
    refine wp_if_eq (tgt := 119) dX6_partTo_62 (by decide) (fun c2 => ?_) (fun c2 => ?_)
    · replace h := h.1 c2
      refine wp_iinc (v := (x5 + 1)) (ls' := [some (.ref (ad G 23)), some (.ref (ad G 12)), some (.ref (ad G 1)), some (.int x3), some (.int x4), some (.int (x5 + 1)), none]) dX6_partTo_119 rfl rfl (by decide) rfl rfl ?_
      refine wp_goto (tgt := 46) dX6_partTo_122 (by decide) ?_
      exact h
    · replace h := h.2 c2
      refine wp_aload_n dX6_partTo_65 rfl rfl ?_
      refine wp_aload_n dX6_partTo_66 rfl rfl ?_
      refine wp_iload dX6_partTo_67 rfl ?_
      refine wp_iload dX6_partTo_69 rfl ?_
      refine wp_callVI (a := 23) (d1 := 1) (As := [.ref (ad G 12), .int x5, .int x4]) (st := []) dX6_partTo_71 rfl cm_X6_firstMate m_3_233 (by decide) rfl (Nat.le_of_ble_eq_true rfl) rfl h ?_
      intro r4 M3 h
      refine wp_istore (ls' := [some (.ref (ad G 23)), some (.ref (ad G 12)), some (.ref (ad G 1)), some (.int x3), some (.int x4), some (.int x5), some (.int r4)]) dX6_partTo_74 (by decide) rfl rfl ?_
      refine wp_iload dX6_partTo_76 rfl ?_
      refine wp_iconst (v := 1) dX6_partTo_78 (by decide) ?_
      refine wp_iload dX6_partTo_79 rfl ?_
      refine wp_ishl dX6_partTo_81 ?_
      refine wp_ixor dX6_partTo_82 ?_
      refine wp_topI (fun y5 hy5 => ?_)
      replace h := h y5 hy5
      refine wp_istore (ls' := [some (.ref (ad G 23)), some (.ref (ad G 12)), some (.ref (ad G 1)), some (.int x3), some (.int y5), some (.int x5), some (.int r4)]) dX6_partTo_83 (by decide) rfl rfl ?_
      refine wp_iload dX6_partTo_85 rfl ?_
      refine wp_bipush (v := (-9 : Int32)) dX6_partTo_87 (by decide) ?_
      refine wp_icmp_eq (tgt := 119) dX6_partTo_89 (by decide) (fun c6 => ?_) (fun c6 => ?_)
      · replace h := h.1 c6
        refine wp_iinc (v := (x5 + 1)) (ls' := [some (.ref (ad G 23)), some (.ref (ad G 12)), some (.ref (ad G 1)), some (.int x3), some (.int y5), some (.int (x5 + 1)), some (.int r4)]) dX6_partTo_119 rfl rfl (by decide) rfl rfl ?_
        refine wp_goto (tgt := 46) dX6_partTo_122 (by decide) ?_
        exact wp_mask [true, true, true, true, true, true, false] rfl h
      · replace h := h.2 c6
        refine wp_iload dX6_partTo_92 rfl ?_
        refine wp_iconst (v := 1) dX6_partTo_94 (by decide) ?_
        refine wp_iload dX6_partTo_95 rfl ?_
        refine wp_ishl dX6_partTo_97 ?_
        refine wp_ixor dX6_partTo_98 ?_
        refine wp_topI (fun y7 hy7 => ?_)
        replace h := h y7 hy7
        refine wp_istore (ls' := [some (.ref (ad G 23)), some (.ref (ad G 12)), some (.ref (ad G 1)), some (.int x3), some (.int y7), some (.int x5), some (.int r4)]) dX6_partTo_99 (by decide) rfl rfl ?_
        refine wp_aload_n dX6_partTo_101 rfl rfl ?_
        refine wp_iload_n dX6_partTo_102 rfl rfl ?_
        refine wp_iload dX6_partTo_103 rfl ?_
        refine wp_iload dX6_partTo_105 rfl ?_
        refine wp_callVV (a := 1) (d1 := 4) (As := [.int x3, .int x5, .int r4]) (st := []) dX6_partTo_107 rfl cm_X9_write m_3_232 (by decide) rfl (Nat.le_of_ble_eq_true rfl) rfl h ?_
        intro M8 h
        refine wp_aload_n dX6_partTo_110 rfl rfl ?_
        refine wp_iload_n dX6_partTo_111 rfl rfl ?_
        refine wp_iload dX6_partTo_112 rfl ?_
        refine wp_iload dX6_partTo_114 rfl ?_
        refine wp_callVV (a := 1) (d1 := 4) (As := [.int x3, .int r4, .int x5]) (st := []) dX6_partTo_116 rfl cm_X9_write m_3_232 (by decide) rfl (Nat.le_of_ble_eq_true rfl) rfl h ?_
        intro M9 h
        refine wp_iinc (v := (x5 + 1)) (ls' := [some (.ref (ad G 23)), some (.ref (ad G 12)), some (.ref (ad G 1)), some (.int x3), some (.int y7), some (.int (x5 + 1)), some (.int r4)]) dX6_partTo_119 rfl rfl (by decide) rfl rfl ?_
        refine wp_goto (tgt := 46) dX6_partTo_122 (by decide) ?_
        exact wp_mask [true, true, true, true, true, true, false] rfl h
abbrev C_X6_partTo (G : Glob) (x3 : Int32) (M : Mem) (Q : Option Value → Mem → Prop) : Prop := WpM G 5 Y_X6_partTo [.ref (ad G 23), .ref (ad G 12), .ref (ad G 1), .int x3] M Q
set_option maxRecDepth 20000 in
theorem v_X6_partTo {G : Glob} {x3 : Int32} {M : Mem} {Q : Option Value → Mem → Prop}  (h : (WpM G 2 Y_X9_begin [.ref (ad G 1), .int x3, .int (M.1 12 2)] M (RV (fun M1 => P_X6_partTo_12 G x3 0 M1 Q)))) : C_X6_partTo G x3 M Q := by
  refine wp_enter (ls0 := [some (.ref (ad G 23)), some (.ref (ad G 12)), some (.ref (ad G 1)), some (.int x3), none, none, none]) (by decide +kernel) (Nat.le_of_ble_eq_true rfl) rfl ?_
  refine wp_aload_n dX6_partTo_0 rfl rfl ?_
  refine wp_iload_n dX6_partTo_1 rfl rfl ?_
  refine wp_aload_n dX6_partTo_2 rfl rfl ?_
  refine wp_getI dX6_partTo_3 rfl fb_3_2 m_1_150 ?_
  refine wp_callVV (a := 1) (d1 := 2) (As := [.int x3, .int (M.1 12 2)]) (st := []) dX6_partTo_6 rfl cm_X9_begin m_3_231 (by decide) rfl (Nat.le_of_ble_eq_true rfl) rfl h ?_
  intro M1 h
  refine wp_iconst (v := 0) dX6_partTo_9 (by decide) ?_
  refine wp_istore (ls' := [some (.ref (ad G 23)), some (.ref (ad G 12)), some (.ref (ad G 1)), some (.int x3), some (.int 0), none, none]) dX6_partTo_10 (by decide) rfl rfl ?_
  exact h
abbrev P_X6_firstMate_31 (G : Glob) (x2 : Int32) (x3 : Int32) (x4 : Int32) (x5 : Int32) (M : Mem) (Q : Option Value → Mem → Prop) : Prop := Wp G 1 Y_X6_firstMate 31 [some (.ref (ad G 23)), some (.ref (ad G 12)), some (.int x2), some (.int x3), some (.int x4), some (.int x5), none] [] M Q
set_option maxRecDepth 20000 in
theorem v_X6_firstMate_31 {G : Glob} {x2 : Int32} {x3 : Int32} {x4 : Int32} {x5 : Int32} {M : Mem} {Q : Option Value → Mem → Prop}  (h : ((x5 < (M.1 12 2) → (vp_in (((8 : Int32) * x5) + x2) 64 ∧ (∀ y3 : Int32, y3 = (M.1 24 (((8 : Int32) * x5) + x2).toNatClampNeg) → (((x4 &&& (1 <<< (x5 &&& 31))) = 0 → P_X6_firstMate_31 G x2 x3 x4 (x5 + 1) M Q) ∧ (¬ (x4 &&& (1 <<< (x5 &&& 31))) = 0 → ((y3 = (-9 : Int32) → P_X6_firstMate_31 G x2 x3 x4 (x5 + 1) M Q) ∧ (¬ y3 = (-9 : Int32) → (vp_in (x4 ^^^ (1 <<< (x5 &&& 31))) 256 ∧ (vp_in x3 256 ∧ (((y3 + (M.1 25 (x4 ^^^ (1 <<< (x5 &&& 31))).toNatClampNeg)) = (M.1 25 x3.toNatClampNeg) → Q (some (.int x5)) M) ∧ (¬ (y3 + (M.1 25 (x4 ^^^ (1 <<< (x5 &&& 31))).toNatClampNeg)) = (M.1 25 x3.toNatClampNeg) → P_X6_firstMate_31 G x2 x3 x4 (x5 + 1) M Q))))))))))) ∧ (¬ x5 < (M.1 12 2) → Q (some (.int (-9 : Int32))) M))) : P_X6_firstMate_31 G x2 x3 x4 x5 M Q := by
  refine wp_iload dX6_firstMate_31 rfl ?_
  refine wp_aload_n dX6_firstMate_33 rfl rfl ?_
  refine wp_getI dX6_firstMate_34 rfl fb_3_2 m_1_150 ?_
  refine wp_icmp_ge (tgt := 104) dX6_firstMate_37 (by decide) (fun c1 => ?_) (fun c1 => ?_)
  · replace h := h.2 c1
    refine wp_bipush (v := (-9 : Int32)) dX6_firstMate_104 (by decide) ?_
    exact wp_iret (ty := .int) dX6_firstMate_106 rfl rfl h
  · replace h := h.1 c1
    refine wp_aload_n dX6_firstMate_40 rfl rfl ?_
    refine wp_getR (b := 24) dX6_firstMate_41 rfl rfl fb_6_0 m_1_177 ?_
    refine wp_bipush (v := 8) dX6_firstMate_44 (by decide) ?_
    refine wp_iload dX6_firstMate_46 rfl ?_
    refine wp_imul dX6_firstMate_48 ?_
    refine wp_iload_n dX6_firstMate_49 rfl rfl ?_
    refine wp_iadd dX6_firstMate_50 ?_
    obtain ⟨b2, h⟩ := h
    refine wp_iald (n := 64) dX6_firstMate_51 rfl rfl b2 ?_
    refine wp_topI (fun y3 hy3 => ?_)
    replace h := h y3 hy3
    refine wp_istore (ls' := [some (.ref (ad G 23)), some (.ref (ad G 12)), some (.int x2), some (.int x3), some (.int x4), some (.int x5), some (.int y3)]) dX6_firstMate_52 (by decide) rfl rfl ?_
    refine wp_iload dX6_firstMate_54 rfl ?_
    refine wp_iconst (v := 1) dX6_firstMate_56 (by decide) ?_
    refine wp_iload dX6_firstMate_57 rfl ?_
    refine wp_ishl dX6_firstMate_59 ?_
    refine wp_iand dX6_firstMate_60 ?_
    refine wp_if_eq (tgt := 98) dX6_firstMate_61 (by decide) (fun c4 => ?_) (fun c4 => ?_)
    · replace h := h.1 c4
      refine wp_iinc (v := (x5 + 1)) (ls' := [some (.ref (ad G 23)), some (.ref (ad G 12)), some (.int x2), some (.int x3), some (.int x4), some (.int (x5 + 1)), some (.int y3)]) dX6_firstMate_98 rfl rfl (by decide) rfl rfl ?_
      refine wp_goto (tgt := 31) dX6_firstMate_101 (by decide) ?_
      exact wp_mask [true, true, true, true, true, true, false] rfl h
    · replace h := h.2 c4
      refine wp_iload dX6_firstMate_64 rfl ?_
      refine wp_bipush (v := (-9 : Int32)) dX6_firstMate_66 (by decide) ?_
      refine wp_icmp_eq (tgt := 98) dX6_firstMate_68 (by decide) (fun c5 => ?_) (fun c5 => ?_)
      · replace h := h.1 c5
        refine wp_iinc (v := (x5 + 1)) (ls' := [some (.ref (ad G 23)), some (.ref (ad G 12)), some (.int x2), some (.int x3), some (.int x4), some (.int (x5 + 1)), some (.int y3)]) dX6_firstMate_98 rfl rfl (by decide) rfl rfl ?_
        refine wp_goto (tgt := 31) dX6_firstMate_101 (by decide) ?_
        exact wp_mask [true, true, true, true, true, true, false] rfl h
      · replace h := h.2 c5
        refine wp_iload dX6_firstMate_71 rfl ?_
        refine wp_aload_n dX6_firstMate_73 rfl rfl ?_
        refine wp_getR (b := 25) dX6_firstMate_74 rfl rfl fb_6_1 m_1_178 ?_
        refine wp_iload dX6_firstMate_77 rfl ?_
        refine wp_iconst (v := 1) dX6_firstMate_79 (by decide) ?_
        refine wp_iload dX6_firstMate_80 rfl ?_
        refine wp_ishl dX6_firstMate_82 ?_
        refine wp_ixor dX6_firstMate_83 ?_
        obtain ⟨b6, h⟩ := h
        refine wp_iald (n := 256) dX6_firstMate_84 rfl rfl b6 ?_
        refine wp_iadd dX6_firstMate_85 ?_
        refine wp_aload_n dX6_firstMate_86 rfl rfl ?_
        refine wp_getR (b := 25) dX6_firstMate_87 rfl rfl fb_6_1 m_1_178 ?_
        refine wp_iload_n dX6_firstMate_90 rfl rfl ?_
        obtain ⟨b7, h⟩ := h
        refine wp_iald (n := 256) dX6_firstMate_91 rfl rfl b7 ?_
        refine wp_icmp_ne (tgt := 98) dX6_firstMate_92 (by decide) (fun c8 => ?_) (fun c8 => ?_)
        · replace h := h.2 c8
          refine wp_iinc (v := (x5 + 1)) (ls' := [some (.ref (ad G 23)), some (.ref (ad G 12)), some (.int x2), some (.int x3), some (.int x4), some (.int (x5 + 1)), some (.int y3)]) dX6_firstMate_98 rfl rfl (by decide) rfl rfl ?_
          refine wp_goto (tgt := 31) dX6_firstMate_101 (by decide) ?_
          exact wp_mask [true, true, true, true, true, true, false] rfl h
        · replace h := h.1 c8
          refine wp_iload dX6_firstMate_95 rfl ?_
          exact wp_iret (ty := .int) dX6_firstMate_97 rfl rfl h
abbrev C_X6_firstMate (G : Glob) (x2 : Int32) (x3 : Int32) (M : Mem) (Q : Option Value → Mem → Prop) : Prop := WpM G 1 Y_X6_firstMate [.ref (ad G 23), .ref (ad G 12), .int x2, .int x3] M Q
set_option maxRecDepth 20000 in
theorem v_X6_firstMate {G : Glob} {x2 : Int32} {x3 : Int32} {M : Mem} {Q : Option Value → Mem → Prop}  (h : (∀ y1 : Int32, y1 = (x3 ^^^ (1 <<< (x2 &&& 31))) → (vp_in y1 256 ∧ (vp_in x3 256 ∧ (((M.1 25 y1.toNatClampNeg) = (M.1 25 x3.toNatClampNeg) → Q (some (.int (-9 : Int32))) M) ∧ (¬ (M.1 25 y1.toNatClampNeg) = (M.1 25 x3.toNatClampNeg) → P_X6_firstMate_31 G x2 x3 y1 (x2 + 1) M Q)))))) : C_X6_firstMate G x2 x3 M Q := by
  refine wp_enter (ls0 := [some (.ref (ad G 23)), some (.ref (ad G 12)), some (.int x2), some (.int x3), none, none, none]) (by decide +kernel) (Nat.le_of_ble_eq_true rfl) rfl ?_
  refine wp_iload_n dX6_firstMate_0 rfl rfl ?_
  refine wp_iconst (v := 1) dX6_firstMate_1 (by decide) ?_
  refine wp_iload_n dX6_firstMate_2 rfl rfl ?_
  refine wp_ishl dX6_firstMate_3 ?_
  refine wp_ixor dX6_firstMate_4 ?_
  refine wp_topI (fun y1 hy1 => ?_)
  replace h := h y1 hy1
  refine wp_istore (ls' := [some (.ref (ad G 23)), some (.ref (ad G 12)), some (.int x2), some (.int x3), some (.int y1), none, none]) dX6_firstMate_5 (by decide) rfl rfl ?_
  refine wp_aload_n dX6_firstMate_7 rfl rfl ?_
  refine wp_getR (b := 25) dX6_firstMate_8 rfl rfl fb_6_1 m_1_178 ?_
  refine wp_iload dX6_firstMate_11 rfl ?_
  obtain ⟨b2, h⟩ := h
  refine wp_iald (n := 256) dX6_firstMate_13 rfl rfl b2 ?_
  refine wp_aload_n dX6_firstMate_14 rfl rfl ?_
  refine wp_getR (b := 25) dX6_firstMate_15 rfl rfl fb_6_1 m_1_178 ?_
  refine wp_iload_n dX6_firstMate_18 rfl rfl ?_
  obtain ⟨b3, h⟩ := h
  refine wp_iald (n := 256) dX6_firstMate_19 rfl rfl b3 ?_
  refine wp_icmp_ne (tgt := 26) dX6_firstMate_20 (by decide) (fun c4 => ?_) (fun c4 => ?_)
  · replace h := h.2 c4
    refine wp_iload_n dX6_firstMate_26 rfl rfl ?_
    refine wp_iconst (v := 1) dX6_firstMate_27 (by decide) ?_
    refine wp_iadd dX6_firstMate_28 ?_
    refine wp_istore (ls' := [some (.ref (ad G 23)), some (.ref (ad G 12)), some (.int x2), some (.int x3), some (.int y1), some (.int (x2 + 1)), none]) dX6_firstMate_29 (by decide) rfl rfl ?_
    exact h
  · replace h := h.1 c4
    refine wp_bipush (v := (-9 : Int32)) dX6_firstMate_23 (by decide) ?_
    exact wp_iret (ty := .int) dX6_firstMate_25 rfl rfl h
abbrev P_X6_safestSet_11 (G : Glob) (x2 : Int32) (x3 : Int32) (x4 : Int32) (M : Mem) (Q : Option Value → Mem → Prop) : Prop := Wp G 3 Y_X6_safestSet 11 [some (.ref (ad G 23)), some (.ref (ad G 12)), some (.int x2), some (.int x3), some (.int x4), none] [] M Q
set_option maxRecDepth 20000 in
theorem v_X6_safestSet_11 {G : Glob} {x2 : Int32} {x3 : Int32} {x4 : Int32} {M : Mem} {Q : Option Value → Mem → Prop}  (h : ((x4 < (1 <<< ((M.1 12 2) &&& 31)) → (((x4 &&& (x2 ^^^ (-1 : Int32))) = 0 → (WpM G 1 Y_J6_bitCount_0f7a4 [.int x4] M (RI (fun r5 M4 => (((M4.1 12 3) < r5 → P_X6_safestSet_11 G x2 x3 (x4 + 1) M4 Q) ∧ (¬ (M4.1 12 3) < r5 → (WpM G 2 Y_X6_isSafer [.ref (ad G 23), .ref (ad G 12), .int x4, .int x3] M4 (RI (fun r10 M9 => ((r10 = 0 → P_X6_safestSet_11 G x2 x3 (x4 + 1) M9 Q) ∧ (¬ r10 = 0 → P_X6_safestSet_11 G x2 x4 (x4 + 1) M9 Q))))))))))) ∧ (¬ (x4 &&& (x2 ^^^ (-1 : Int32))) = 0 → P_X6_safestSet_11 G x2 x3 (x4 + 1) M Q))) ∧ (¬ x4 < (1 <<< ((M.1 12 2) &&& 31)) → Q (some (.int x3)) M))) : P_X6_safestSet_11 G x2 x3 x4 M Q := by
  refine wp_iload dX6_safestSet_11 rfl ?_
  refine wp_iconst (v := 1) dX6_safestSet_13 (by decide) ?_
  refine wp_aload_n dX6_safestSet_14 rfl rfl ?_
  refine wp_getI dX6_safestSet_15 rfl fb_3_2 m_1_150 ?_
  refine wp_ishl dX6_safestSet_18 ?_
  refine wp_icmp_ge (tgt := 75) dX6_safestSet_19 (by decide) (fun c1 => ?_) (fun c1 => ?_)
  · replace h := h.2 c1
    refine wp_iload_n dX6_safestSet_75 rfl rfl ?_
    exact wp_iret (ty := .int) dX6_safestSet_76 rfl rfl h
  · replace h := h.1 c1
    refine wp_iload dX6_safestSet_22 rfl ?_
    refine wp_iload_n dX6_safestSet_24 rfl rfl ?_
    refine wp_iconst (v := (-1 : Int32)) dX6_safestSet_25 (by decide) ?_
    refine wp_ixor dX6_safestSet_26 ?_
    refine wp_iand dX6_safestSet_27 ?_
    refine wp_if_ne (tgt := 47) dX6_safestSet_28 (by decide) (fun c2 => ?_) (fun c2 => ?_)
    · replace h := h.2 c2
      refine wp_iconst (v := 0) dX6_safestSet_47 (by decide) ?_
      refine wp_istore (ls' := [some (.ref (ad G 23)), some (.ref (ad G 12)), some (.int x2), some (.int x3), some (.int x4), some (.int 0)]) dX6_safestSet_48 (by decide) rfl rfl ?_
      refine wp_iload dX6_safestSet_50 rfl ?_
      refine wp_if_eq (tgt := 69) dX6_safestSet_52 (by decide) (fun c3 => ?_) (fun c3 => ?_)
      · refine wp_iinc (v := (x4 + 1)) (ls' := [some (.ref (ad G 23)), some (.ref (ad G 12)), some (.int x2), some (.int x3), some (.int (x4 + 1)), some (.int 0)]) dX6_safestSet_69 rfl rfl (by decide) rfl rfl ?_
        refine wp_goto (tgt := 11) dX6_safestSet_72 (by decide) ?_
        exact wp_mask [true, true, true, true, true, false] rfl h
      · exact absurd c3 (by decide)
    · replace h := h.1 c2
      refine wp_iload dX6_safestSet_31 rfl ?_
      refine wp_callSI (d1 := 1) (As := [.int x4]) (st := []) dX6_safestSet_33 cm_J6_bitCount_0f7a4 m_2_197 (by decide) rfl (Nat.le_of_ble_eq_true rfl) rfl h ?_
      intro r5 M4 h
      refine wp_aload_n dX6_safestSet_36 rfl rfl ?_
      refine wp_getI dX6_safestSet_37 rfl fb_3_3 m_1_157 ?_
      refine wp_icmp_gt (tgt := 47) dX6_safestSet_40 (by decide) (fun c6 => ?_) (fun c6 => ?_)
      · replace h := h.1 c6
        refine wp_iconst (v := 0) dX6_safestSet_47 (by decide) ?_
        refine wp_istore (ls' := [some (.ref (ad G 23)), some (.ref (ad G 12)), some (.int x2), some (.int x3), some (.int x4), some (.int 0)]) dX6_safestSet_48 (by decide) rfl rfl ?_
        refine wp_iload dX6_safestSet_50 rfl ?_
        refine wp_if_eq (tgt := 69) dX6_safestSet_52 (by decide) (fun c7 => ?_) (fun c7 => ?_)
        · refine wp_iinc (v := (x4 + 1)) (ls' := [some (.ref (ad G 23)), some (.ref (ad G 12)), some (.int x2), some (.int x3), some (.int (x4 + 1)), some (.int 0)]) dX6_safestSet_69 rfl rfl (by decide) rfl rfl ?_
          refine wp_goto (tgt := 11) dX6_safestSet_72 (by decide) ?_
          exact wp_mask [true, true, true, true, true, false] rfl h
        · exact absurd c7 (by decide)
      · replace h := h.2 c6
        refine wp_iconst (v := 1) dX6_safestSet_43 (by decide) ?_
        refine wp_goto (tgt := 48) dX6_safestSet_44 (by decide) ?_
        refine wp_istore (ls' := [some (.ref (ad G 23)), some (.ref (ad G 12)), some (.int x2), some (.int x3), some (.int x4), some (.int 1)]) dX6_safestSet_48 (by decide) rfl rfl ?_
        refine wp_iload dX6_safestSet_50 rfl ?_
        refine wp_if_eq (tgt := 69) dX6_safestSet_52 (by decide) (fun c8 => ?_) (fun c8 => ?_)
        · exact absurd c8 (by decide)
        · refine wp_aload_n dX6_safestSet_55 rfl rfl ?_
          refine wp_aload_n dX6_safestSet_56 rfl rfl ?_
          refine wp_iload dX6_safestSet_57 rfl ?_
          refine wp_iload_n dX6_safestSet_59 rfl rfl ?_
          refine wp_callVI (a := 23) (d1 := 2) (As := [.ref (ad G 12), .int x4, .int x3]) (st := []) dX6_safestSet_60 rfl cm_X6_isSafer m_2_198 (by decide) rfl (Nat.le_of_ble_eq_true rfl) rfl h ?_
          intro r10 M9 h
          refine wp_if_eq (tgt := 69) dX6_safestSet_63 (by decide) (fun c11 => ?_) (fun c11 => ?_)
          · replace h := h.1 c11
            refine wp_iinc (v := (x4 + 1)) (ls' := [some (.ref (ad G 23)), some (.ref (ad G 12)), some (.int x2), some (.int x3), some (.int (x4 + 1)), some (.int 1)]) dX6_safestSet_69 rfl rfl (by decide) rfl rfl ?_
            refine wp_goto (tgt := 11) dX6_safestSet_72 (by decide) ?_
            exact wp_mask [true, true, true, true, true, false] rfl h
          · replace h := h.2 c11
            refine wp_iload dX6_safestSet_66 rfl ?_
            refine wp_istore_n (ls' := [some (.ref (ad G 23)), some (.ref (ad G 12)), some (.int x2), some (.int x4), some (.int x4), some (.int 1)]) dX6_safestSet_68 rfl (by decide) rfl rfl ?_
            refine wp_iinc (v := (x4 + 1)) (ls' := [some (.ref (ad G 23)), some (.ref (ad G 12)), some (.int x2), some (.int x4), some (.int (x4 + 1)), some (.int 1)]) dX6_safestSet_69 rfl rfl (by decide) rfl rfl ?_
            refine wp_goto (tgt := 11) dX6_safestSet_72 (by decide) ?_
            exact wp_mask [true, true, true, true, true, false] rfl h
abbrev C_X6_safestSet (G : Glob)  (M : Mem) (Q : Option Value → Mem → Prop) : Prop := WpM G 3 Y_X6_safestSet [.ref (ad G 23), .ref (ad G 12)] M Q
set_option maxRecDepth 20000 in
theorem v_X6_safestSet {G : Glob} {M : Mem} {Q : Option Value → Mem → Prop}  (h : (WpM G 1 Y_X3_setOf [.ref (ad G 12), .int 0] M (RI (fun r2 M1 => P_X6_safestSet_11 G r2 0 1 M1 Q)))) : C_X6_safestSet G  M Q := by
  refine wp_enter (ls0 := [some (.ref (ad G 23)), some (.ref (ad G 12)), none, none, none, none]) (by decide +kernel) (Nat.le_of_ble_eq_true rfl) rfl ?_
  refine wp_aload_n dX6_safestSet_0 rfl rfl ?_
  refine wp_iconst (v := 0) dX6_safestSet_1 (by decide) ?_
  refine wp_callVI (a := 12) (d1 := 1) (As := [.int 0]) (st := []) dX6_safestSet_2 rfl cm_X3_setOf m_2_196 (by decide) rfl (Nat.le_of_ble_eq_true rfl) rfl h ?_
  intro r2 M1 h
  refine wp_istore_n (ls' := [some (.ref (ad G 23)), some (.ref (ad G 12)), some (.int r2), none, none, none]) dX6_safestSet_5 rfl (by decide) rfl rfl ?_
  refine wp_iconst (v := 0) dX6_safestSet_6 (by decide) ?_
  refine wp_istore_n (ls' := [some (.ref (ad G 23)), some (.ref (ad G 12)), some (.int r2), some (.int 0), none, none]) dX6_safestSet_7 rfl (by decide) rfl rfl ?_
  refine wp_iconst (v := 1) dX6_safestSet_8 (by decide) ?_
  refine wp_istore (ls' := [some (.ref (ad G 23)), some (.ref (ad G 12)), some (.int r2), some (.int 0), some (.int 1), none]) dX6_safestSet_9 (by decide) rfl rfl ?_
  exact h
abbrev C_X6_isSafer (G : Glob) (x2 : Int32) (x3 : Int32) (M : Mem) (Q : Option Value → Mem → Prop) : Prop := WpM G 2 Y_X6_isSafer [.ref (ad G 23), .ref (ad G 12), .int x2, .int x3] M Q
set_option maxRecDepth 20000 in
theorem v_X6_isSafer {G : Glob} {x2 : Int32} {x3 : Int32} {M : Mem} {Q : Option Value → Mem → Prop}  (h : (WpM G 1 Y_X6_afterWorstLoss [.ref (ad G 23), .ref (ad G 12), .int x2] M (RI (fun r2 M1 => (WpM G 1 Y_X6_afterWorstLoss [.ref (ad G 23), .ref (ad G 12), .int x3] M1 (RI (fun r4 M3 => ((r2 = r4 → (WpM G 1 Y_J6_bitCount_0f7a4 [.int x2] M3 (RI (fun r7 M6 => (WpM G 1 Y_J6_bitCount_0f7a4 [.int x3] M6 (RI (fun r9 M8 => ((r7 < r9 → Q (some (.int 1)) M8) ∧ (¬ r7 < r9 → Q (some (.int 0)) M8))))))))) ∧ (¬ r2 = r4 → ((r4 < r2 → Q (some (.int 1)) M3) ∧ (¬ r4 < r2 → Q (some (.int 0)) M3))))))))))) : C_X6_isSafer G x2 x3 M Q := by
  refine wp_enter (ls0 := [some (.ref (ad G 23)), some (.ref (ad G 12)), some (.int x2), some (.int x3), none, none]) (by decide +kernel) (Nat.le_of_ble_eq_true rfl) rfl ?_
  refine wp_aload_n dX6_isSafer_0 rfl rfl ?_
  refine wp_aload_n dX6_isSafer_1 rfl rfl ?_
  refine wp_iload_n dX6_isSafer_2 rfl rfl ?_
  refine wp_callVI (a := 23) (d1 := 1) (As := [.ref (ad G 12), .int x2]) (st := []) dX6_isSafer_3 rfl cm_X6_afterWorstLoss m_2_202 (by decide) rfl (Nat.le_of_ble_eq_true rfl) rfl h ?_
  intro r2 M1 h
  refine wp_istore (ls' := [some (.ref (ad G 23)), some (.ref (ad G 12)), some (.int x2), some (.int x3), some (.int r2), none]) dX6_isSafer_6 (by decide) rfl rfl ?_
  refine wp_aload_n dX6_isSafer_8 rfl rfl ?_
  refine wp_aload_n dX6_isSafer_9 rfl rfl ?_
  refine wp_iload_n dX6_isSafer_10 rfl rfl ?_
  refine wp_callVI (a := 23) (d1 := 1) (As := [.ref (ad G 12), .int x3]) (st := []) dX6_isSafer_11 rfl cm_X6_afterWorstLoss m_2_202 (by decide) rfl (Nat.le_of_ble_eq_true rfl) rfl h ?_
  intro r4 M3 h
  refine wp_istore (ls' := [some (.ref (ad G 23)), some (.ref (ad G 12)), some (.int x2), some (.int x3), some (.int r2), some (.int r4)]) dX6_isSafer_14 (by decide) rfl rfl ?_
  refine wp_iload dX6_isSafer_16 rfl ?_
  refine wp_iload dX6_isSafer_18 rfl ?_
  refine wp_icmp_eq (tgt := 36) dX6_isSafer_20 (by decide) (fun c5 => ?_) (fun c5 => ?_)
  · replace h := h.1 c5
    refine wp_iload_n dX6_isSafer_36 rfl rfl ?_
    refine wp_callSI (d1 := 1) (As := [.int x2]) (st := []) dX6_isSafer_37 cm_J6_bitCount_0f7a4 m_2_197 (by decide) rfl (Nat.le_of_ble_eq_true rfl) rfl h ?_
    intro r7 M6 h
    refine wp_iload_n dX6_isSafer_40 rfl rfl ?_
    refine wp_callSI (d1 := 1) (As := [.int x3]) (st := [.int r7]) dX6_isSafer_41 cm_J6_bitCount_0f7a4 m_2_197 (by decide) rfl (Nat.le_of_ble_eq_true rfl) rfl h ?_
    intro r9 M8 h
    refine wp_icmp_ge (tgt := 51) dX6_isSafer_44 (by decide) (fun c10 => ?_) (fun c10 => ?_)
    · replace h := h.2 c10
      refine wp_iconst (v := 0) dX6_isSafer_51 (by decide) ?_
      exact wp_iret (ty := .boolean) dX6_isSafer_52 rfl rfl h
    · replace h := h.1 c10
      refine wp_iconst (v := 1) dX6_isSafer_47 (by decide) ?_
      refine wp_goto (tgt := 52) dX6_isSafer_48 (by decide) ?_
      exact wp_iret (ty := .boolean) dX6_isSafer_52 rfl rfl h
  · replace h := h.2 c5
    refine wp_iload dX6_isSafer_23 rfl ?_
    refine wp_iload dX6_isSafer_25 rfl ?_
    refine wp_icmp_le (tgt := 34) dX6_isSafer_27 (by decide) (fun c11 => ?_) (fun c11 => ?_)
    · replace h := h.2 c11
      refine wp_iconst (v := 0) dX6_isSafer_34 (by decide) ?_
      exact wp_iret (ty := .boolean) dX6_isSafer_35 rfl rfl h
    · replace h := h.1 c11
      refine wp_iconst (v := 1) dX6_isSafer_30 (by decide) ?_
      refine wp_goto (tgt := 35) dX6_isSafer_31 (by decide) ?_
      exact wp_iret (ty := .boolean) dX6_isSafer_35 rfl rfl h
abbrev P_X6_afterWorstLoss_10 (G : Glob) (x2 : Int32) (x3 : Int32) (x4 : Int32) (M : Mem) (Q : Option Value → Mem → Prop) : Prop := Wp G 1 Y_X6_afterWorstLoss 10 [some (.ref (ad G 23)), some (.ref (ad G 12)), some (.int x2), some (.int x3), some (.int x4)] [] M Q
set_option maxRecDepth 20000 in
theorem v_X6_afterWorstLoss_10 {G : Glob} {x2 : Int32} {x3 : Int32} {x4 : Int32} {M : Mem} {Q : Option Value → Mem → Prop}  (h : ((x4 < (M.1 12 2) → (((x2 &&& (1 <<< (x4 &&& 31))) = 0 → P_X6_afterWorstLoss_10 G x2 x3 (x4 + 1) M Q) ∧ (¬ (x2 &&& (1 <<< (x4 &&& 31))) = 0 → (vp_in x4 8 ∧ (((M.1 (55 + x4.toNatClampNeg) 0) = 3 → P_X6_afterWorstLoss_10 G x2 x3 (x4 + 1) M Q) ∧ (¬ (M.1 (55 + x4.toNatClampNeg) 0) = 3 → (vp_in (x2 ^^^ (1 <<< (x4 &&& 31))) 256 ∧ (∀ y6 : Int32, y6 = (if (M.1 25 (x2 ^^^ (1 <<< (x4 &&& 31))).toNatClampNeg) < x3 then (M.1 25 (x2 ^^^ (1 <<< (x4 &&& 31))).toNatClampNeg) else x3) → P_X6_afterWorstLoss_10 G x2 y6 (x4 + 1) M Q)))))))) ∧ (¬ x4 < (M.1 12 2) → Q (some (.int x3)) M))) : P_X6_afterWorstLoss_10 G x2 x3 x4 M Q := by
  refine wp_iload dX6_afterWorstLoss_10 rfl ?_
  refine wp_aload_n dX6_afterWorstLoss_12 rfl rfl ?_
  refine wp_getI dX6_afterWorstLoss_13 rfl fb_3_2 m_1_150 ?_
  refine wp_icmp_ge (tgt := 64) dX6_afterWorstLoss_16 (by decide) (fun c1 => ?_) (fun c1 => ?_)
  · replace h := h.2 c1
    refine wp_iload_n dX6_afterWorstLoss_64 rfl rfl ?_
    exact wp_iret (ty := .int) dX6_afterWorstLoss_65 rfl rfl h
  · replace h := h.1 c1
    refine wp_iload_n dX6_afterWorstLoss_19 rfl rfl ?_
    refine wp_iconst (v := 1) dX6_afterWorstLoss_20 (by decide) ?_
    refine wp_iload dX6_afterWorstLoss_21 rfl ?_
    refine wp_ishl dX6_afterWorstLoss_23 ?_
    refine wp_iand dX6_afterWorstLoss_24 ?_
    refine wp_if_eq (tgt := 58) dX6_afterWorstLoss_25 (by decide) (fun c2 => ?_) (fun c2 => ?_)
    · replace h := h.1 c2
      refine wp_iinc (v := (x4 + 1)) (ls' := [some (.ref (ad G 23)), some (.ref (ad G 12)), some (.int x2), some (.int x3), some (.int (x4 + 1))]) dX6_afterWorstLoss_58 rfl rfl (by decide) rfl rfl ?_
      refine wp_goto (tgt := 10) dX6_afterWorstLoss_61 (by decide) ?_
      exact h
    · replace h := h.2 c2
      refine wp_aload_n dX6_afterWorstLoss_28 rfl rfl ?_
      refine wp_getR (b := 13) dX6_afterWorstLoss_29 rfl rfl fb_3_0 m_1_143 ?_
      refine wp_iload dX6_afterWorstLoss_32 rfl ?_
      obtain ⟨b3, h⟩ := h
      refine wp_aald (b := (55 + x4.toNatClampNeg)) (n := 8) dX6_afterWorstLoss_34 rfl (by decide) rfl b3 rfl ?_
      have kb3 : kd (55 + x4.toNatClampNeg) = 4 := (kda_23 (a := 13) rfl (vp_lt b3))
      refine wp_getI dX6_afterWorstLoss_35 kb3 fb_4_0 m_1_112 ?_
      refine wp_iconst (v := 3) dX6_afterWorstLoss_38 (by decide) ?_
      refine wp_icmp_eq (tgt := 58) dX6_afterWorstLoss_39 (by decide) (fun c4 => ?_) (fun c4 => ?_)
      · replace h := h.1 c4
        refine wp_iinc (v := (x4 + 1)) (ls' := [some (.ref (ad G 23)), some (.ref (ad G 12)), some (.int x2), some (.int x3), some (.int (x4 + 1))]) dX6_afterWorstLoss_58 rfl rfl (by decide) rfl rfl ?_
        refine wp_goto (tgt := 10) dX6_afterWorstLoss_61 (by decide) ?_
        exact h
      · replace h := h.2 c4
        refine wp_iload_n dX6_afterWorstLoss_42 rfl rfl ?_
        refine wp_aload_n dX6_afterWorstLoss_43 rfl rfl ?_
        refine wp_getR (b := 25) dX6_afterWorstLoss_44 rfl rfl fb_6_1 m_1_178 ?_
        refine wp_iload_n dX6_afterWorstLoss_47 rfl rfl ?_
        refine wp_iconst (v := 1) dX6_afterWorstLoss_48 (by decide) ?_
        refine wp_iload dX6_afterWorstLoss_49 rfl ?_
        refine wp_ishl dX6_afterWorstLoss_51 ?_
        refine wp_ixor dX6_afterWorstLoss_52 ?_
        obtain ⟨b5, h⟩ := h
        refine wp_iald (n := 256) dX6_afterWorstLoss_53 rfl rfl b5 ?_
        refine wp_min m_2_206 (by decide) mw_min (Nat.le_of_ble_eq_true rfl) dX6_afterWorstLoss_54 ?_
        refine wp_topI (fun y6 hy6 => ?_)
        replace h := h y6 hy6
        refine wp_istore_n (ls' := [some (.ref (ad G 23)), some (.ref (ad G 12)), some (.int x2), some (.int y6), some (.int x4)]) dX6_afterWorstLoss_57 rfl (by decide) rfl rfl ?_
        refine wp_iinc (v := (x4 + 1)) (ls' := [some (.ref (ad G 23)), some (.ref (ad G 12)), some (.int x2), some (.int y6), some (.int (x4 + 1))]) dX6_afterWorstLoss_58 rfl rfl (by decide) rfl rfl ?_
        refine wp_goto (tgt := 10) dX6_afterWorstLoss_61 (by decide) ?_
        exact h
abbrev C_X6_afterWorstLoss (G : Glob) (x2 : Int32) (M : Mem) (Q : Option Value → Mem → Prop) : Prop := WpM G 1 Y_X6_afterWorstLoss [.ref (ad G 23), .ref (ad G 12), .int x2] M Q
set_option maxRecDepth 20000 in
theorem v_X6_afterWorstLoss {G : Glob} {x2 : Int32} {M : Mem} {Q : Option Value → Mem → Prop}  (h : (vp_in x2 256 ∧ (∀ y2 : Int32, y2 = (M.1 25 x2.toNatClampNeg) → P_X6_afterWorstLoss_10 G x2 y2 0 M Q))) : C_X6_afterWorstLoss G x2 M Q := by
  refine wp_enter (ls0 := [some (.ref (ad G 23)), some (.ref (ad G 12)), some (.int x2), none, none]) (by decide +kernel) (Nat.le_of_ble_eq_true rfl) rfl ?_
  refine wp_aload_n dX6_afterWorstLoss_0 rfl rfl ?_
  refine wp_getR (b := 25) dX6_afterWorstLoss_1 rfl rfl fb_6_1 m_1_178 ?_
  refine wp_iload_n dX6_afterWorstLoss_4 rfl rfl ?_
  obtain ⟨b1, h⟩ := h
  refine wp_iald (n := 256) dX6_afterWorstLoss_5 rfl rfl b1 ?_
  refine wp_topI (fun y2 hy2 => ?_)
  replace h := h y2 hy2
  refine wp_istore_n (ls' := [some (.ref (ad G 23)), some (.ref (ad G 12)), some (.int x2), some (.int y2), none]) dX6_afterWorstLoss_6 rfl (by decide) rfl rfl ?_
  refine wp_iconst (v := 0) dX6_afterWorstLoss_7 (by decide) ?_
  refine wp_istore (ls' := [some (.ref (ad G 23)), some (.ref (ad G 12)), some (.int x2), some (.int y2), some (.int 0)]) dX6_afterWorstLoss_8 (by decide) rfl rfl ?_
  exact h
abbrev P_X6_markSetsOf_2 (G : Glob) (x1 : Int32) (x2 : Int32) (M : Mem) (Q : Option Value → Mem → Prop) : Prop := Wp G 1 Y_X6_markSetsOf 2 [some (.ref (ad G 23)), some (.int x1), some (.int x2)] [] M Q
set_option maxRecDepth 20000 in
theorem v_X6_markSetsOf_2 {G : Glob} {x1 : Int32} {x2 : Int32} {M : Mem} {Q : Option Value → Mem → Prop}  (h : ((x2 < 256 → (vp_in x2 256 ∧ (((M.1 26 x2.toNatClampNeg) < x1 → (vp_in x2 256 ∧ (∀ M5 : Mem, M5 = upI M 27 (x2.toNatClampNeg) 0 → P_X6_markSetsOf_2 G x1 (x2 + 1) M5 Q))) ∧ (¬ (M.1 26 x2.toNatClampNeg) < x1 → (vp_in x2 256 ∧ (∀ M7 : Mem, M7 = upI M 27 (x2.toNatClampNeg) 1 → P_X6_markSetsOf_2 G x1 (x2 + 1) M7 Q)))))) ∧ (¬ x2 < 256 → Q none M))) : P_X6_markSetsOf_2 G x1 x2 M Q := by
  refine wp_iload_n dX6_markSetsOf_2 rfl rfl ?_
  refine wp_sipush (v := 256) dX6_markSetsOf_3 (by decide) ?_
  refine wp_icmp_ge (tgt := 36) dX6_markSetsOf_6 (by decide) (fun c1 => ?_) (fun c1 => ?_)
  · replace h := h.2 c1
    exact wp_vret dX6_markSetsOf_36 rfl h
  · replace h := h.1 c1
    refine wp_aload_n dX6_markSetsOf_9 rfl rfl ?_
    refine wp_getR (b := 27) dX6_markSetsOf_10 rfl rfl fb_6_3 m_1_183 ?_
    refine wp_iload_n dX6_markSetsOf_13 rfl rfl ?_
    refine wp_aload_n dX6_markSetsOf_14 rfl rfl ?_
    refine wp_getR (b := 26) dX6_markSetsOf_15 rfl rfl fb_6_2 m_1_181 ?_
    refine wp_iload_n dX6_markSetsOf_18 rfl rfl ?_
    obtain ⟨b2, h⟩ := h
    refine wp_iald (n := 256) dX6_markSetsOf_19 rfl rfl b2 ?_
    refine wp_iload_n dX6_markSetsOf_20 rfl rfl ?_
    refine wp_icmp_lt (tgt := 28) dX6_markSetsOf_21 (by decide) (fun c3 => ?_) (fun c3 => ?_)
    · replace h := h.1 c3
      refine wp_iconst (v := 0) dX6_markSetsOf_28 (by decide) ?_
      obtain ⟨b4, h⟩ := h
      refine wp_iast (n := 256) dX6_markSetsOf_29 rfl rfl b4 ?_
      refine wp_topM (fun M5 hM5 => ?_)
      replace h := h M5 hM5
      refine wp_iinc (v := (x2 + 1)) (ls' := [some (.ref (ad G 23)), some (.int x1), some (.int (x2 + 1))]) dX6_markSetsOf_30 rfl rfl (by decide) rfl rfl ?_
      refine wp_goto (tgt := 2) dX6_markSetsOf_33 (by decide) ?_
      exact h
    · replace h := h.2 c3
      refine wp_iconst (v := 1) dX6_markSetsOf_24 (by decide) ?_
      refine wp_goto (tgt := 29) dX6_markSetsOf_25 (by decide) ?_
      obtain ⟨b6, h⟩ := h
      refine wp_iast (n := 256) dX6_markSetsOf_29 rfl rfl b6 ?_
      refine wp_topM (fun M7 hM7 => ?_)
      replace h := h M7 hM7
      refine wp_iinc (v := (x2 + 1)) (ls' := [some (.ref (ad G 23)), some (.int x1), some (.int (x2 + 1))]) dX6_markSetsOf_30 rfl rfl (by decide) rfl rfl ?_
      refine wp_goto (tgt := 2) dX6_markSetsOf_33 (by decide) ?_
      exact h
abbrev C_X6_markSetsOf (G : Glob) (x1 : Int32) (M : Mem) (Q : Option Value → Mem → Prop) : Prop := WpM G 1 Y_X6_markSetsOf [.ref (ad G 23), .int x1] M Q
set_option maxRecDepth 20000 in
theorem v_X6_markSetsOf {G : Glob} {x1 : Int32} {M : Mem} {Q : Option Value → Mem → Prop}  (h : P_X6_markSetsOf_2 G x1 0 M Q) : C_X6_markSetsOf G x1 M Q := by
  refine wp_enter (ls0 := [some (.ref (ad G 23)), some (.int x1), none]) (by decide +kernel) (Nat.le_of_ble_eq_true rfl) rfl ?_
  refine wp_iconst (v := 0) dX6_markSetsOf_0 (by decide) ?_
  refine wp_istore_n (ls' := [some (.ref (ad G 23)), some (.int x1), some (.int 0)]) dX6_markSetsOf_1 rfl (by decide) rfl rfl ?_
  exact h
