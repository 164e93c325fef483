abbrev P_X8_leadAfter_3 (G : Glob) (x2 : Int32) (x3 : Int32) (x4 : Int32) (M : Mem) (Q : Option Value → Mem → Prop) : Prop := Wp G 9 Y_X8_leadAfter 3 [some (.ref (ad G 39)), some (.ref (ad G 23)), some (.int x2), some (.int x3), some (.int x4)] [] M Q
set_option maxRecDepth 20000 in
theorem v_X8_leadAfter_3 {G : Glob} {x2 : Int32} {x3 : Int32} {x4 : Int32} {M : Mem} {Q : Option Value → Mem → Prop}  (h : ((x4 < 6561 → (vp_in x4 6561 ∧ (∀ M5 : Mem, M5 = upI M 40 (x4.toNatClampNeg) 1000000 → P_X8_leadAfter_3 G x2 x3 (x4 + 1) M5 Q))) ∧ (¬ x4 < 6561 → (WpM G 8 Y_X8_lead [.ref (ad G 39), .ref (ad G 23), .int 0, .int 0, .int x2, .int x3] M (RI (fun r3 M2 => Q (some (.int r3)) M2)))))) : P_X8_leadAfter_3 G x2 x3 x4 M Q := by
  refine wp_iload dX8_leadAfter_3 rfl ?_
  refine wp_sipush (v := 6561) dX8_leadAfter_5 (by decide) ?_
  refine wp_icmp_ge (tgt := 26) dX8_leadAfter_8 (by decide) (fun c1 => ?_) (fun c1 => ?_)
  · replace h := h.2 c1
    refine wp_aload_n dX8_leadAfter_26 rfl rfl ?_
    refine wp_aload_n dX8_leadAfter_27 rfl rfl ?_
    refine wp_iconst (v := 0) dX8_leadAfter_28 (by decide) ?_
    refine wp_iconst (v := 0) dX8_leadAfter_29 (by decide) ?_
    refine wp_iload_n dX8_leadAfter_30 rfl rfl ?_
    refine wp_iload_n dX8_leadAfter_31 rfl rfl ?_
    refine wp_callSI (d1 := 8) (As := [.ref (ad G 39), .ref (ad G 23), .int 0, .int 0, .int x2, .int x3]) (st := []) dX8_leadAfter_32 cm_X8_lead m_4_88 (by decide) rfl (Nat.le_of_ble_eq_true rfl) rfl h ?_
    intro r3 M2 h
    exact wp_iret (ty := .int) dX8_leadAfter_35 rfl rfl h
  · replace h := h.1 c1
    refine wp_aload_n dX8_leadAfter_11 rfl rfl ?_
    refine wp_getR (b := 40) dX8_leadAfter_12 rfl rfl fb_8_0 m_2_5 ?_
    refine wp_iload dX8_leadAfter_15 rfl ?_
    refine wp_ldc (v := 1000000) m_4_87 dX8_leadAfter_17 ?_
    obtain ⟨b4, h⟩ := h
    refine wp_iast (n := 6561) dX8_leadAfter_19 rfl rfl b4 ?_
    refine wp_topM (fun M5 hM5 => ?_)
    replace h := h M5 hM5
    refine wp_iinc (v := (x4 + 1)) (ls' := [some (.ref (ad G 39)), some (.ref (ad G 23)), some (.int x2), some (.int x3), some (.int (x4 + 1))]) dX8_leadAfter_20 rfl rfl (by decide) rfl rfl ?_
    refine wp_goto (tgt := 3) dX8_leadAfter_23 (by decide) ?_
    exact h
abbrev C_X8_leadAfter (G : Glob) (x2 : Int32) (x3 : Int32) (M : Mem) (Q : Option Value → Mem → Prop) : Prop := WpM G 9 Y_X8_leadAfter [.ref (ad G 39), .ref (ad G 23), .int x2, .int x3] M Q
set_option maxRecDepth 20000 in
theorem v_X8_leadAfter {G : Glob} {x2 : Int32} {x3 : Int32} {M : Mem} {Q : Option Value → Mem → Prop}  (h : P_X8_leadAfter_3 G x2 x3 0 M Q) : C_X8_leadAfter G x2 x3 M Q := by
  refine wp_enter (ls0 := [some (.ref (ad G 39)), some (.ref (ad G 23)), some (.int x2), some (.int x3), none]) (by decide +kernel) (Nat.le_of_ble_eq_true rfl) rfl ?_
  refine wp_iconst (v := 0) dX8_leadAfter_0 (by decide) ?_
  refine wp_istore (ls' := [some (.ref (ad G 39)), some (.ref (ad G 23)), some (.int x2), some (.int x3), some (.int 0)]) dX8_leadAfter_1 (by decide) rfl rfl ?_
  exact h
abbrev P_X8_lead_68 (G : Glob) (d : Nat) (x2 : Int32) (x3 : Int32) (x4 : Int32) (x5 : Int32) (x6 : Int32) (x7 : Int32) (x8 : Int32) (M : Mem) (Q : Option Value → Mem → Prop) : Prop := Wp G (d + 1) Y_X8_lead 68 [some (.ref (ad G 39)), some (.ref (ad G 23)), some (.int x2), some (.int x3), some (.int x4), some (.int x5), some (.int x6), some (.int x7), some (.int x8), none] [] M Q
set_option maxRecDepth 20000 in
theorem v_X8_lead_68 {G : Glob} {d : Nat} {x2 : Int32} {x3 : Int32} {x4 : Int32} {x5 : Int32} {x6 : Int32} {x7 : Int32} {x8 : Int32} {M : Mem} {Q : Option Value → Mem → Prop} (hd : 1 ≤ d)  (h : ((x8 < 8 → (((x4 &&& (1 <<< (x8 &&& 31))) = 0 → P_X8_lead_68 G d x2 x3 x4 x5 x6 x7 (x8 + 1) M Q) ∧ (¬ (x4 &&& (1 <<< (x8 &&& 31))) = 0 → (WpM G d Y_X8_lead [.ref (ad G 39), .ref (ad G 23), .int x3, .int (x2 ||| (1 <<< (x8 &&& 31))), .int (x4 ^^^ (1 <<< (x8 &&& 31))), .int (x5 - 1)] M (RI (fun r6 M5 => (∀ y7 : Int32, y7 = (if x7 < (-r6) then (-r6) else x7) → P_X8_lead_68 G d x2 x3 x4 x5 x6 y7 (x8 + 1) M5 Q))))))) ∧ (¬ x8 < 8 → (vp_in x6 6561 ∧ (∀ M3 : Mem, M3 = upI M 40 (x6.toNatClampNeg) x7 → Q (some (.int x7)) M3))))) : P_X8_lead_68 G d x2 x3 x4 x5 x6 x7 x8 M Q := by
  refine wp_iload dX8_lead_68 rfl ?_
  refine wp_bipush (v := 8) dX8_lead_70 (by decide) ?_
  refine wp_icmp_ge (tgt := 122) dX8_lead_72 (by decide) (fun c1 => ?_) (fun c1 => ?_)
  · replace h := h.2 c1
    refine wp_aload_n dX8_lead_122 rfl rfl ?_
    refine wp_getR (b := 40) dX8_lead_123 rfl rfl fb_8_0 m_2_5 ?_
    refine wp_iload dX8_lead_126 rfl ?_
    refine wp_iload dX8_lead_128 rfl ?_
    obtain ⟨b2, h⟩ := h
    refine wp_iast (n := 6561) dX8_lead_130 rfl rfl b2 ?_
    refine wp_topM (fun M3 hM3 => ?_)
    replace h := h M3 hM3
    refine wp_iload dX8_lead_131 rfl ?_
    exact wp_iret (ty := .int) dX8_lead_133 rfl rfl h
  · replace h := h.1 c1
    refine wp_iconst (v := 1) dX8_lead_75 (by decide) ?_
    refine wp_iload dX8_lead_76 rfl ?_
    refine wp_ishl dX8_lead_78 ?_
    refine wp_istore (ls' := [some (.ref (ad G 39)), some (.ref (ad G 23)), some (.int x2), some (.int x3), some (.int x4), some (.int x5), some (.int x6), some (.int x7), some (.int x8), some (.int (1 <<< (x8 &&& 31)))]) dX8_lead_79 (by decide) rfl rfl ?_
    refine wp_iload dX8_lead_81 rfl ?_
    refine wp_iload dX8_lead_83 rfl ?_
    refine wp_iand dX8_lead_85 ?_
    refine wp_if_eq (tgt := 116) dX8_lead_86 (by decide) (fun c4 => ?_) (fun c4 => ?_)
    · replace h := h.1 c4
      refine wp_iinc (v := (x8 + 1)) (ls' := [some (.ref (ad G 39)), some (.ref (ad G 23)), some (.int x2), some (.int x3), some (.int x4), some (.int x5), some (.int x6), some (.int x7), some (.int (x8 + 1)), some (.int (1 <<< (x8 &&& 31)))]) dX8_lead_116 rfl rfl (by decide) rfl rfl ?_
      refine wp_goto (tgt := 68) dX8_lead_119 (by decide) ?_
      exact wp_mask [true, true, true, true, true, true, true, true, true, false] rfl h
    · replace h := h.2 c4
      refine wp_iload dX8_lead_89 rfl ?_
      refine wp_aload_n dX8_lead_91 rfl rfl ?_
      refine wp_aload_n dX8_lead_92 rfl rfl ?_
      refine wp_iload_n dX8_lead_93 rfl rfl ?_
      refine wp_iload_n dX8_lead_94 rfl rfl ?_
      refine wp_iload dX8_lead_95 rfl ?_
      refine wp_ior dX8_lead_97 ?_
      refine wp_iload dX8_lead_98 rfl ?_
      refine wp_iload dX8_lead_100 rfl ?_
      refine wp_ixor dX8_lead_102 ?_
      refine wp_iload dX8_lead_103 rfl ?_
      refine wp_iconst (v := 1) dX8_lead_105 (by decide) ?_
      refine wp_isub dX8_lead_106 ?_
      refine wp_callSI (d1 := d) (As := [.ref (ad G 39), .ref (ad G 23), .int x3, .int (x2 ||| (1 <<< (x8 &&& 31))), .int (x4 ^^^ (1 <<< (x8 &&& 31))), .int (x5 - 1)]) (st := [.int x7]) dX8_lead_107 cm_X8_lead m_4_88 (by omega) rfl (Nat.le_of_ble_eq_true rfl) rfl h ?_
      intro r6 M5 h
      refine wp_ineg dX8_lead_110 ?_
      refine wp_max m_4_92 (by omega) mw_max (Nat.le_of_ble_eq_true rfl) dX8_lead_111 ?_
      refine wp_topI (fun y7 hy7 => ?_)
      replace h := h y7 hy7
      refine wp_istore (ls' := [some (.ref (ad G 39)), some (.ref (ad G 23)), some (.int x2), some (.int x3), some (.int x4), some (.int x5), some (.int x6), some (.int y7), some (.int x8), some (.int (1 <<< (x8 &&& 31)))]) dX8_lead_114 (by decide) rfl rfl ?_
      refine wp_iinc (v := (x8 + 1)) (ls' := [some (.ref (ad G 39)), some (.ref (ad G 23)), some (.int x2), some (.int x3), some (.int x4), some (.int x5), some (.int x6), some (.int y7), some (.int (x8 + 1)), some (.int (1 <<< (x8 &&& 31)))]) dX8_lead_116 rfl rfl (by decide) rfl rfl ?_
      refine wp_goto (tgt := 68) dX8_lead_119 (by decide) ?_
      exact wp_mask [true, true, true, true, true, true, true, true, true, false] rfl h
abbrev C_X8_lead (G : Glob) (d : Nat) (x2 : Int32) (x3 : Int32) (x4 : Int32) (x5 : Int32) (M : Mem) (Q : Option Value → Mem → Prop) : Prop := WpM G (d + 1) Y_X8_lead [.ref (ad G 39), .ref (ad G 23), .int x2, .int x3, .int x4, .int x5] M Q
set_option maxRecDepth 20000 in
theorem v_X8_lead {G : Glob} {d : Nat} {x2 : Int32} {x3 : Int32} {x4 : Int32} {x5 : Int32} {M : Mem} {Q : Option Value → Mem → Prop} (hd : 1 ≤ d)  (h : (((0 : Int32) < x5 → ((x4 = 0 → (vp_in x2 256 ∧ (vp_in x3 256 ∧ Q (some (.int ((M.1 25 x2.toNatClampNeg) - (M.1 25 x3.toNatClampNeg)))) M))) ∧ (¬ x4 = 0 → (vp_in x2 256 ∧ (vp_in x3 256 ∧ (∀ y7 : Int32, y7 = ((M.1 41 x2.toNatClampNeg) + ((2 : Int32) * (M.1 41 x3.toNatClampNeg))) → (vp_in y7 6561 ∧ (((M.1 40 y7.toNatClampNeg) = 1000000 → P_X8_lead_68 G d x2 x3 x4 x5 y7 (-1000000 : Int32) 0 M Q) ∧ (¬ (M.1 40 y7.toNatClampNeg) = 1000000 → (vp_in y7 6561 ∧ Q (some (.int (M.1 40 y7.toNatClampNeg))) M)))))))))) ∧ (¬ (0 : Int32) < x5 → (vp_in x2 256 ∧ (vp_in x3 256 ∧ Q (some (.int ((M.1 25 x2.toNatClampNeg) - (M.1 25 x3.toNatClampNeg)))) M))))) : C_X8_lead G d x2 x3 x4 x5 M Q := by
  refine wp_enter (ls0 := [some (.ref (ad G 39)), some (.ref (ad G 23)), some (.int x2), some (.int x3), some (.int x4), some (.int x5), none, none, none, none]) (by decide +kernel) (Nat.le_of_ble_eq_true rfl) rfl ?_
  refine wp_iload dX8_lead_0 rfl ?_
  refine wp_if_le (tgt := 10) dX8_lead_2 (by decide) (fun c1 => ?_) (fun c1 => ?_)
  · replace h := h.2 c1
    refine wp_aload_n dX8_lead_10 rfl rfl ?_
    refine wp_getR (b := 25) dX8_lead_11 rfl rfl fb_6_1 m_1_179 ?_
    refine wp_iload_n dX8_lead_14 rfl rfl ?_
    obtain ⟨b2, h⟩ := h
    refine wp_iald (n := 256) dX8_lead_15 rfl rfl b2 ?_
    refine wp_aload_n dX8_lead_16 rfl rfl ?_
    refine wp_getR (b := 25) dX8_lead_17 rfl rfl fb_6_1 m_1_179 ?_
    refine wp_iload_n dX8_lead_20 rfl rfl ?_
    obtain ⟨b3, h⟩ := h
    refine wp_iald (n := 256) dX8_lead_21 rfl rfl b3 ?_
    refine wp_isub dX8_lead_22 ?_
    exact wp_iret (ty := .int) dX8_lead_23 rfl rfl h
  · replace h := h.1 c1
    refine wp_iload dX8_lead_5 rfl ?_
    refine wp_if_ne (tgt := 24) dX8_lead_7 (by decide) (fun c4 => ?_) (fun c4 => ?_)
    · replace h := h.2 c4
      refine wp_aload_n dX8_lead_24 rfl rfl ?_
      refine wp_getR (b := 41) dX8_lead_25 rfl rfl fb_8_1 m_2_6 ?_
      refine wp_iload_n dX8_lead_28 rfl rfl ?_
      obtain ⟨b5, h⟩ := h
      refine wp_iald (n := 256) dX8_lead_29 rfl rfl b5 ?_
      refine wp_iconst (v := 2) dX8_lead_30 (by decide) ?_
      refine wp_aload_n dX8_lead_31 rfl rfl ?_
      refine wp_getR (b := 41) dX8_lead_32 rfl rfl fb_8_1 m_2_6 ?_
      refine wp_iload_n dX8_lead_35 rfl rfl ?_
      obtain ⟨b6, h⟩ := h
      refine wp_iald (n := 256) dX8_lead_36 rfl rfl b6 ?_
      refine wp_imul dX8_lead_37 ?_
      refine wp_iadd dX8_lead_38 ?_
      refine wp_topI (fun y7 hy7 => ?_)
      replace h := h y7 hy7
      refine wp_istore (ls' := [some (.ref (ad G 39)), some (.ref (ad G 23)), some (.int x2), some (.int x3), some (.int x4), some (.int x5), some (.int y7), none, none, none]) dX8_lead_39 (by decide) rfl rfl ?_
      refine wp_aload_n dX8_lead_41 rfl rfl ?_
      refine wp_getR (b := 40) dX8_lead_42 rfl rfl fb_8_0 m_2_5 ?_
      refine wp_iload dX8_lead_45 rfl ?_
      obtain ⟨b8, h⟩ := h
      refine wp_iald (n := 6561) dX8_lead_47 rfl rfl b8 ?_
      refine wp_ldc (v := 1000000) m_4_87 dX8_lead_48 ?_
      refine wp_icmp_eq (tgt := 61) dX8_lead_50 (by decide) (fun c9 => ?_) (fun c9 => ?_)
      · replace h := h.1 c9
        refine wp_ldc (v := (-1000000 : Int32)) m_4_91 dX8_lead_61 ?_
        refine wp_istore (ls' := [some (.ref (ad G 39)), some (.ref (ad G 23)), some (.int x2), some (.int x3), some (.int x4), some (.int x5), some (.int y7), some (.int (-1000000 : Int32)), none, none]) dX8_lead_63 (by decide) rfl rfl ?_
        refine wp_iconst (v := 0) dX8_lead_65 (by decide) ?_
        refine wp_istore (ls' := [some (.ref (ad G 39)), some (.ref (ad G 23)), some (.int x2), some (.int x3), some (.int x4), some (.int x5), some (.int y7), some (.int (-1000000 : Int32)), some (.int 0), none]) dX8_lead_66 (by decide) rfl rfl ?_
        exact h
      · replace h := h.2 c9
        refine wp_aload_n dX8_lead_53 rfl rfl ?_
        refine wp_getR (b := 40) dX8_lead_54 rfl rfl fb_8_0 m_2_5 ?_
        refine wp_iload dX8_lead_57 rfl ?_
        obtain ⟨b10, h⟩ := h
        refine wp_iald (n := 6561) dX8_lead_59 rfl rfl b10 ?_
        exact wp_iret (ty := .int) dX8_lead_60 rfl rfl h
    · replace h := h.1 c4
      refine wp_aload_n dX8_lead_10 rfl rfl ?_
      refine wp_getR (b := 25) dX8_lead_11 rfl rfl fb_6_1 m_1_179 ?_
      refine wp_iload_n dX8_lead_14 rfl rfl ?_
      obtain ⟨b11, h⟩ := h
      refine wp_iald (n := 256) dX8_lead_15 rfl rfl b11 ?_
      refine wp_aload_n dX8_lead_16 rfl rfl ?_
      refine wp_getR (b := 25) dX8_lead_17 rfl rfl fb_6_1 m_1_179 ?_
      refine wp_iload_n dX8_lead_20 rfl rfl ?_
      obtain ⟨b12, h⟩ := h
      refine wp_iald (n := 256) dX8_lead_21 rfl rfl b12 ?_
      refine wp_isub dX8_lead_22 ?_
      exact wp_iret (ty := .int) dX8_lead_23 rfl rfl h
