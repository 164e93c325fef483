abbrev P_X1_reckon_13 (G : Glob) (x2 : Int32) (x3 : Int32) (o4 : Nat) (x5 : Int32) (x6 : Int64) (x8 : Int32) (M : Mem) (Q : Option Value → Mem → Prop) : Prop := Wp G 3 Y_X1_reckon 13 [some (.ref (ad G 42)), some (.ref (ad G 12)), some (.int x2), some (.int x3), some (.ref (ad G o4)), some (.int x5), some (.long x6), none, some (.int x8), none, none, none] [] M Q
abbrev P_X1_reckon_71 (G : Glob) (o4 : Nat) (x5 : Int32) (x6 : Int64) (x8 : Int64) (x10 : Int32) (M : Mem) (Q : Option Value → Mem → Prop) : Prop := Wp G 3 Y_X1_reckon 71 [some (.ref (ad G 42)), some (.ref (ad G 12)), none, none, some (.ref (ad G o4)), some (.int x5), some (.long x6), none, some (.long x8), none, some (.int x10), none] [] M Q
set_option maxRecDepth 20000 in
theorem v_X1_reckon_13 {G : Glob} {x2 : Int32} {x3 : Int32} {o4 : Nat} {x5 : Int32} {x6 : Int64} {x8 : Int32} {M : Mem} {Q : Option Value → Mem → Prop} (hk4 : kd o4 = 20) (h : ((x8 < (M.1 12 2) → (vp_in x8 8 ∧ (WpM G 2 Y_X1_lossOf [.ref (ad G (55 + x8.toNatClampNeg)), .int x2, .int x3] M (RI (fun r4 M3 => (vp_in x8 8 ∧ (∀ M6 : Mem, M6 = upI M3 43 (x8.toNatClampNeg) r4 → (((x5 &&& (1 <<< (x8 &&& 31))) = 0 → P_X1_reckon_13 G x2 x3 o4 x5 x6 (x8 + 1) M6 Q) ∧ (¬ (x5 &&& (1 <<< (x8 &&& 31))) = 0 → P_X1_reckon_13 G x2 x3 o4 x5 (x6 * 12) (x8 + 1) M6 Q))))))))) ∧ (¬ x8 < (M.1 12 2) → P_X1_reckon_71 G o4 x5 x6 0 0 M Q))) : P_X1_reckon_13 G x2 x3 o4 x5 x6 x8 M Q := by
  refine wp_iload dX1_reckon_13 rfl ?_
  refine wp_aload_n dX1_reckon_15 rfl rfl ?_
  refine wp_getI dX1_reckon_16 rfl fb_3_2 m_1_152 ?_
  refine wp_icmp_ge (tgt := 65) dX1_reckon_19 (by decide) (fun c1 => ?_) (fun c1 => ?_)
  · replace h := h.2 c1
    refine wp_lconst (v := 0) dX1_reckon_65 (by decide) ?_
    refine wp_lstore (ls' := [some (.ref (ad G 42)), some (.ref (ad G 12)), some (.int x2), some (.int x3), some (.ref (ad G o4)), some (.int x5), some (.long x6), none, some (.long 0), none, none, none]) dX1_reckon_66 (by decide) rfl rfl ?_
    refine wp_iconst (v := 0) dX1_reckon_68 (by decide) ?_
    refine wp_istore (ls' := [some (.ref (ad G 42)), some (.ref (ad G 12)), some (.int x2), some (.int x3), some (.ref (ad G o4)), some (.int x5), some (.long x6), none, some (.long 0), none, some (.int 0), none]) dX1_reckon_69 (by decide) rfl rfl ?_
    exact wp_mask [true, true, false, false, true, true, true, false, true, false, true, false] rfl h
  · replace h := h.1 c1
    refine wp_aload_n dX1_reckon_22 rfl rfl ?_
    refine wp_getR (b := 43) dX1_reckon_23 rfl rfl fb_1_0 m_2_18 ?_
    refine wp_iload dX1_reckon_26 rfl ?_
    refine wp_aload_n dX1_reckon_28 rfl rfl ?_
    refine wp_getR (b := 13) dX1_reckon_29 rfl rfl fb_3_0 m_1_144 ?_
    refine wp_iload dX1_reckon_32 rfl ?_
    obtain ⟨b2, h⟩ := h
    refine wp_aald (b := (55 + x8.toNatClampNeg)) (n := 8) dX1_reckon_34 rfl (by decide) rfl b2 rfl ?_
    have kb2 : kd (55 + x8.toNatClampNeg) = 4 := (kda_23 (a := 13) rfl (vp_lt b2))
    refine wp_iload_n dX1_reckon_35 rfl rfl ?_
    refine wp_iload_n dX1_reckon_36 rfl rfl ?_
    refine wp_callSI (d1 := 2) (As := [.ref (ad G (55 + x8.toNatClampNeg)), .int x2, .int x3]) (st := [.int x8, .ref (ad G 43)]) dX1_reckon_37 cm_X1_lossOf m_4_109 (by decide) rfl (Nat.le_of_ble_eq_true rfl) rfl h ?_
    intro r4 M3 h
    obtain ⟨b5, h⟩ := h
    refine wp_iast (n := 8) dX1_reckon_40 rfl rfl b5 ?_
    refine wp_topM (fun M6 hM6 => ?_)
    replace h := h M6 hM6
    refine wp_iload dX1_reckon_41 rfl ?_
    refine wp_iconst (v := 1) dX1_reckon_43 (by decide) ?_
    refine wp_iload dX1_reckon_44 rfl ?_
    refine wp_ishl dX1_reckon_46 ?_
    refine wp_iand dX1_reckon_47 ?_
    refine wp_if_eq (tgt := 59) dX1_reckon_48 (by decide) (fun c7 => ?_) (fun c7 => ?_)
    · replace h := h.1 c7
      refine wp_iinc (v := (x8 + 1)) (ls' := [some (.ref (ad G 42)), some (.ref (ad G 12)), some (.int x2), some (.int x3), some (.ref (ad G o4)), some (.int x5), some (.long x6), none, some (.int (x8 + 1)), none, none, none]) dX1_reckon_59 rfl rfl (by decide) rfl rfl ?_
      refine wp_goto (tgt := 13) dX1_reckon_62 (by decide) ?_
      exact h
    · replace h := h.2 c7
      refine wp_lload dX1_reckon_51 rfl ?_
      refine wp_ldc2 (v := 12) m_4_114 dX1_reckon_53 ?_
      refine wp_lmul dX1_reckon_56 ?_
      refine wp_lstore (ls' := [some (.ref (ad G 42)), some (.ref (ad G 12)), some (.int x2), some (.int x3), some (.ref (ad G o4)), some (.int x5), some (.long (x6 * 12)), none, some (.int x8), none, none, none]) dX1_reckon_57 (by decide) rfl rfl ?_
      refine wp_iinc (v := (x8 + 1)) (ls' := [some (.ref (ad G 42)), some (.ref (ad G 12)), some (.int x2), some (.int x3), some (.ref (ad G o4)), some (.int x5), some (.long (x6 * 12)), none, some (.int (x8 + 1)), none, none, none]) dX1_reckon_59 rfl rfl (by decide) rfl rfl ?_
      refine wp_goto (tgt := 13) dX1_reckon_62 (by decide) ?_
      exact h
set_option maxRecDepth 20000 in
theorem v_X1_reckon_71 {G : Glob} {o4 : Nat} {x5 : Int32} {x6 : Int64} {x8 : Int64} {x10 : Int32} {M : Mem} {Q : Option Value → Mem → Prop} (hk4 : kd o4 = 20) (h : ((x10 < (1 <<< ((M.1 12 2) &&& 31)) → ((x10 < (Int32.ofNat (ln o4)) → (((x10 &&& (x5 ^^^ (-1 : Int32))) = 0 → (vp_in x10 (ln o4) ∧ (WpM G 1 Y_X1_waysTo [.ref (ad G 42), .ref (ad G 12), .int x5, .int x10] M (RJ (fun r28 M27 => (∀ y29 : Int64, y29 = (x8 + ((M.1 o4 x10.toNatClampNeg).toInt64 * r28)) → P_X1_reckon_71 G o4 x5 x6 y29 (x10 + 1) M27 Q)))))) ∧ (¬ (x10 &&& (x5 ^^^ (-1 : Int32))) = 0 → P_X1_reckon_71 G o4 x5 x6 x8 (x10 + 1) M Q))) ∧ (¬ x10 < (Int32.ofNat (ln o4)) → (WpM G 1 Y_X1_commonDivisor [.long x6, .long x8] M (RJ (fun r15 M14 => (((0 : Int32) < lg_cmp r15 0 → (¬ r15 = 0 ∧ (∀ M21 : Mem, M21 = upL M14 42 1 (x8 / r15) → (((0 : Int32) < lg_cmp r15 0 → (¬ r15 = 0 ∧ (∀ M24 : Mem, M24 = upL M21 42 2 (x6 / r15) → Q none M24))) ∧ (¬ (0 : Int32) < lg_cmp r15 0 → (∀ M23 : Mem, M23 = upL M21 42 2 x6 → Q none M23)))))) ∧ (¬ (0 : Int32) < lg_cmp r15 0 → (∀ M17 : Mem, M17 = upL M14 42 1 x8 → (((0 : Int32) < lg_cmp r15 0 → (¬ r15 = 0 ∧ (∀ M20 : Mem, M20 = upL M17 42 2 (x6 / r15) → Q none M20))) ∧ (¬ (0 : Int32) < lg_cmp r15 0 → (∀ M19 : Mem, M19 = upL M17 42 2 x6 → Q none M19)))))))))))) ∧ (¬ x10 < (1 <<< ((M.1 12 2) &&& 31)) → (WpM G 1 Y_X1_commonDivisor [.long x6, .long x8] M (RJ (fun r3 M2 => (((0 : Int32) < lg_cmp r3 0 → (¬ r3 = 0 ∧ (∀ M9 : Mem, M9 = upL M2 42 1 (x8 / r3) → (((0 : Int32) < lg_cmp r3 0 → (¬ r3 = 0 ∧ (∀ M12 : Mem, M12 = upL M9 42 2 (x6 / r3) → Q none M12))) ∧ (¬ (0 : Int32) < lg_cmp r3 0 → (∀ M11 : Mem, M11 = upL M9 42 2 x6 → Q none M11)))))) ∧ (¬ (0 : Int32) < lg_cmp r3 0 → (∀ M5 : Mem, M5 = upL M2 42 1 x8 → (((0 : Int32) < lg_cmp r3 0 → (¬ r3 = 0 ∧ (∀ M8 : Mem, M8 = upL M5 42 2 (x6 / r3) → Q none M8))) ∧ (¬ (0 : Int32) < lg_cmp r3 0 → (∀ M7 : Mem, M7 = upL M5 42 2 x6 → Q none M7)))))))))))) : P_X1_reckon_71 G o4 x5 x6 x8 x10 M Q := by
  refine wp_iload dX1_reckon_71 rfl ?_
  refine wp_iconst (v := 1) dX1_reckon_73 (by decide) ?_
  refine wp_aload_n dX1_reckon_74 rfl rfl ?_
  refine wp_getI dX1_reckon_75 rfl fb_3_2 m_1_152 ?_
  refine wp_ishl dX1_reckon_78 ?_
  refine wp_icmp_ge (tgt := 127) dX1_reckon_79 (by decide) (fun c1 => ?_) (fun c1 => ?_)
  · replace h := h.2 c1
    refine wp_lload dX1_reckon_127 rfl ?_
    refine wp_lload dX1_reckon_129 rfl ?_
    refine wp_callSL (d1 := 1) (As := [.long x6, .long x8]) (st := []) dX1_reckon_131 cm_X1_commonDivisor m_4_119 (by decide) rfl (Nat.le_of_ble_eq_true rfl) rfl h ?_
    intro r3 M2 h
    refine wp_lstore (ls' := [some (.ref (ad G 42)), some (.ref (ad G 12)), none, none, some (.ref (ad G o4)), some (.int x5), some (.long x6), none, some (.long x8), none, some (.long r3), none]) dX1_reckon_134 (by decide) rfl rfl ?_
    refine wp_aload_n dX1_reckon_136 rfl rfl ?_
    refine wp_lload dX1_reckon_137 rfl ?_
    refine wp_lconst (v := 0) dX1_reckon_139 (by decide) ?_
    refine wp_lcmp dX1_reckon_140 ?_
    refine wp_if_le (tgt := 152) dX1_reckon_141 (by decide) (fun c4 => ?_) (fun c4 => ?_)
    · replace h := h.2 c4
      refine wp_lload dX1_reckon_152 rfl ?_
      refine wp_putL dX1_reckon_154 rfl fp_1_1 m_2_19 ?_
      refine wp_topM (fun M5 hM5 => ?_)
      replace h := h M5 hM5
      refine wp_aload_n dX1_reckon_157 rfl rfl ?_
      refine wp_lload dX1_reckon_158 rfl ?_
      refine wp_lconst (v := 0) dX1_reckon_160 (by decide) ?_
      refine wp_lcmp dX1_reckon_161 ?_
      refine wp_if_le (tgt := 173) dX1_reckon_162 (by decide) (fun c6 => ?_) (fun c6 => ?_)
      · replace h := h.2 c6
        refine wp_lload dX1_reckon_173 rfl ?_
        refine wp_putL dX1_reckon_175 rfl fp_1_2 m_2_21 ?_
        refine wp_topM (fun M7 hM7 => ?_)
        replace h := h M7 hM7
        exact wp_vret dX1_reckon_178 rfl h
      · replace h := h.1 c6
        refine wp_lload dX1_reckon_165 rfl ?_
        refine wp_lload dX1_reckon_167 rfl ?_
        refine wp_ldiv dX1_reckon_169 h.1 ?_
        replace h := h.2
        refine wp_goto (tgt := 175) dX1_reckon_170 (by decide) ?_
        refine wp_putL dX1_reckon_175 rfl fp_1_2 m_2_21 ?_
        refine wp_topM (fun M8 hM8 => ?_)
        replace h := h M8 hM8
        exact wp_vret dX1_reckon_178 rfl h
    · replace h := h.1 c4
      refine wp_lload dX1_reckon_144 rfl ?_
      refine wp_lload dX1_reckon_146 rfl ?_
      refine wp_ldiv dX1_reckon_148 h.1 ?_
      replace h := h.2
      refine wp_goto (tgt := 154) dX1_reckon_149 (by decide) ?_
      refine wp_putL dX1_reckon_154 rfl fp_1_1 m_2_19 ?_
      refine wp_topM (fun M9 hM9 => ?_)
      replace h := h M9 hM9
      refine wp_aload_n dX1_reckon_157 rfl rfl ?_
      refine wp_lload dX1_reckon_158 rfl ?_
      refine wp_lconst (v := 0) dX1_reckon_160 (by decide) ?_
      refine wp_lcmp dX1_reckon_161 ?_
      refine wp_if_le (tgt := 173) dX1_reckon_162 (by decide) (fun c10 => ?_) (fun c10 => ?_)
      · replace h := h.2 c10
        refine wp_lload dX1_reckon_173 rfl ?_
        refine wp_putL dX1_reckon_175 rfl fp_1_2 m_2_21 ?_
        refine wp_topM (fun M11 hM11 => ?_)
        replace h := h M11 hM11
        exact wp_vret dX1_reckon_178 rfl h
      · replace h := h.1 c10
        refine wp_lload dX1_reckon_165 rfl ?_
        refine wp_lload dX1_reckon_167 rfl ?_
        refine wp_ldiv dX1_reckon_169 h.1 ?_
        replace h := h.2
        refine wp_goto (tgt := 175) dX1_reckon_170 (by decide) ?_
        refine wp_putL dX1_reckon_175 rfl fp_1_2 m_2_21 ?_
        refine wp_topM (fun M12 hM12 => ?_)
        replace h := h M12 hM12
        exact wp_vret dX1_reckon_178 rfl h
  · replace h := h.1 c1
    refine wp_iload dX1_reckon_82 rfl ?_
    refine wp_aload dX1_reckon_84 rfl ?_
    refine wp_alen (v := (Int32.ofNat (ln o4))) dX1_reckon_86 hk4 (by decide) rfl ?_
    refine wp_icmp_ge (tgt := 127) dX1_reckon_87 (by decide) (fun c13 => ?_) (fun c13 => ?_)
    · replace h := h.2 c13
      refine wp_lload dX1_reckon_127 rfl ?_
      refine wp_lload dX1_reckon_129 rfl ?_
      refine wp_callSL (d1 := 1) (As := [.long x6, .long x8]) (st := []) dX1_reckon_131 cm_X1_commonDivisor m_4_119 (by decide) rfl (Nat.le_of_ble_eq_true rfl) rfl h ?_
      intro r15 M14 h
      refine wp_lstore (ls' := [some (.ref (ad G 42)), some (.ref (ad G 12)), none, none, some (.ref (ad G o4)), some (.int x5), some (.long x6), none, some (.long x8), none, some (.long r15), none]) dX1_reckon_134 (by decide) rfl rfl ?_
      refine wp_aload_n dX1_reckon_136 rfl rfl ?_
      refine wp_lload dX1_reckon_137 rfl ?_
      refine wp_lconst (v := 0) dX1_reckon_139 (by decide) ?_
      refine wp_lcmp dX1_reckon_140 ?_
      refine wp_if_le (tgt := 152) dX1_reckon_141 (by decide) (fun c16 => ?_) (fun c16 => ?_)
      · replace h := h.2 c16
        refine wp_lload dX1_reckon_152 rfl ?_
        refine wp_putL dX1_reckon_154 rfl fp_1_1 m_2_19 ?_
        refine wp_topM (fun M17 hM17 => ?_)
        replace h := h M17 hM17
        refine wp_aload_n dX1_reckon_157 rfl rfl ?_
        refine wp_lload dX1_reckon_158 rfl ?_
        refine wp_lconst (v := 0) dX1_reckon_160 (by decide) ?_
        refine wp_lcmp dX1_reckon_161 ?_
        refine wp_if_le (tgt := 173) dX1_reckon_162 (by decide) (fun c18 => ?_) (fun c18 => ?_)
        · replace h := h.2 c18
          refine wp_lload dX1_reckon_173 rfl ?_
          refine wp_putL dX1_reckon_175 rfl fp_1_2 m_2_21 ?_
          refine wp_topM (fun M19 hM19 => ?_)
          replace h := h M19 hM19
          exact wp_vret dX1_reckon_178 rfl h
        · replace h := h.1 c18
          refine wp_lload dX1_reckon_165 rfl ?_
          refine wp_lload dX1_reckon_167 rfl ?_
          refine wp_ldiv dX1_reckon_169 h.1 ?_
          replace h := h.2
          refine wp_goto (tgt := 175) dX1_reckon_170 (by decide) ?_
          refine wp_putL dX1_reckon_175 rfl fp_1_2 m_2_21 ?_
          refine wp_topM (fun M20 hM20 => ?_)
          replace h := h M20 hM20
          exact wp_vret dX1_reckon_178 rfl h
      · replace h := h.1 c16
        refine wp_lload dX1_reckon_144 rfl ?_
        refine wp_lload dX1_reckon_146 rfl ?_
        refine wp_ldiv dX1_reckon_148 h.1 ?_
        replace h := h.2
        refine wp_goto (tgt := 154) dX1_reckon_149 (by decide) ?_
        refine wp_putL dX1_reckon_154 rfl fp_1_1 m_2_19 ?_
        refine wp_topM (fun M21 hM21 => ?_)
        replace h := h M21 hM21
        refine wp_aload_n dX1_reckon_157 rfl rfl ?_
        refine wp_lload dX1_reckon_158 rfl ?_
        refine wp_lconst (v := 0) dX1_reckon_160 (by decide) ?_
        refine wp_lcmp dX1_reckon_161 ?_
        refine wp_if_le (tgt := 173) dX1_reckon_162 (by decide) (fun c22 => ?_) (fun c22 => ?_)
        · replace h := h.2 c22
          refine wp_lload dX1_reckon_173 rfl ?_
          refine wp_putL dX1_reckon_175 rfl fp_1_2 m_2_21 ?_
          refine wp_topM (fun M23 hM23 => ?_)
          replace h := h M23 hM23
          exact wp_vret dX1_reckon_178 rfl h
        · replace h := h.1 c22
          refine wp_lload dX1_reckon_165 rfl ?_
          refine wp_lload dX1_reckon_167 rfl ?_
          refine wp_ldiv dX1_reckon_169 h.1 ?_
          replace h := h.2
          refine wp_goto (tgt := 175) dX1_reckon_170 (by decide) ?_
          refine wp_putL dX1_reckon_175 rfl fp_1_2 m_2_21 ?_
          refine wp_topM (fun M24 hM24 => ?_)
          replace h := h M24 hM24
          exact wp_vret dX1_reckon_178 rfl h
    · replace h := h.1 c13
      refine wp_iload dX1_reckon_90 rfl ?_
      refine wp_iload dX1_reckon_92 rfl ?_
      refine wp_iconst (v := (-1 : Int32)) dX1_reckon_94 (by decide) ?_
      refine wp_ixor dX1_reckon_95 ?_
      refine wp_iand dX1_reckon_96 ?_
      refine wp_if_ne (tgt := 121) dX1_reckon_97 (by decide) (fun c25 => ?_) (fun c25 => ?_)
      · replace h := h.2 c25
        refine wp_iinc (v := (x10 + 1)) (ls' := [some (.ref (ad G 42)), some (.ref (ad G 12)), none, none, some (.ref (ad G o4)), some (.int x5), some (.long x6), none, some (.long x8), none, some (.int (x10 + 1)), none]) dX1_reckon_121 rfl rfl (by decide) rfl rfl ?_
        refine wp_goto (tgt := 71) dX1_reckon_124 (by decide) ?_
        exact h
      · replace h := h.1 c25
        refine wp_lload dX1_reckon_100 rfl ?_
        refine wp_aload dX1_reckon_102 rfl ?_
        refine wp_iload dX1_reckon_104 rfl ?_
        obtain ⟨b26, h⟩ := h
        refine wp_iald (n := ln o4) dX1_reckon_106 hk4 rfl b26 ?_
        refine wp_i2l dX1_reckon_107 ?_
        refine wp_aload_n dX1_reckon_108 rfl rfl ?_
        refine wp_aload_n dX1_reckon_109 rfl rfl ?_
        refine wp_iload dX1_reckon_110 rfl ?_
        refine wp_iload dX1_reckon_112 rfl ?_
        refine wp_callVL (a := 42) (d1 := 1) (As := [.ref (ad G 12), .int x5, .int x10]) (st := [.long ((M.1 o4 x10.toNatClampNeg).toInt64), .long x8]) dX1_reckon_114 rfl cm_X1_waysTo m_4_115 (by decide) rfl (Nat.le_of_ble_eq_true rfl) rfl h ?_
        intro r28 M27 h
        refine wp_lmul dX1_reckon_117 ?_
        refine wp_ladd dX1_reckon_118 ?_
        refine wp_topJ (fun y29 hy29 => ?_)
        replace h := h y29 hy29
        refine wp_lstore (ls' := [some (.ref (ad G 42)), some (.ref (ad G 12)), none, none, some (.ref (ad G o4)), some (.int x5), some (.long x6), none, some (.long y29), none, some (.int x10), none]) dX1_reckon_119 (by decide) rfl rfl ?_
        refine wp_iinc (v := (x10 + 1)) (ls' := [some (.ref (ad G 42)), some (.ref (ad G 12)), none, none, some (.ref (ad G o4)), some (.int x5), some (.long x6), none, some (.long y29), none, some (.int (x10 + 1)), none]) dX1_reckon_121 rfl rfl (by decide) rfl rfl ?_
        refine wp_goto (tgt := 71) dX1_reckon_124 (by decide) ?_
        exact h
abbrev C_X1_reckon (G : Glob) (x2 : Int32) (x3 : Int32) (o4 : Nat) (M : Mem) (Q : Option Value → Mem → Prop) : Prop := WpM G 3 Y_X1_reckon [.ref (ad G 42), .ref (ad G 12), .int x2, .int x3, .ref (ad G o4)] M Q
set_option maxRecDepth 20000 in
theorem v_X1_reckon {G : Glob} {x2 : Int32} {x3 : Int32} {o4 : Nat} {M : Mem} {Q : Option Value → Mem → Prop} (hk4 : kd o4 = 20) (h : (WpM G 1 Y_X3_setOf [.ref (ad G 12), .int 0] M (RI (fun r2 M1 => P_X1_reckon_13 G x2 x3 o4 r2 1 0 M1 Q)))) : C_X1_reckon G x2 x3 o4 M Q := by
  refine wp_enter (ls0 := [some (.ref (ad G 42)), some (.ref (ad G 12)), some (.int x2), some (.int x3), some (.ref (ad G o4)), none, none, none, none, none, none, none]) (by decide +kernel) (Nat.le_of_ble_eq_true rfl) rfl ?_
  refine wp_aload_n dX1_reckon_0 rfl rfl ?_
  refine wp_iconst (v := 0) dX1_reckon_1 (by decide) ?_
  refine wp_callVI (a := 12) (d1 := 1) (As := [.int 0]) (st := []) dX1_reckon_2 rfl cm_X3_setOf m_4_108 (by decide) rfl (Nat.le_of_ble_eq_true rfl) rfl h ?_
  intro r2 M1 h
  refine wp_istore (ls' := [some (.ref (ad G 42)), some (.ref (ad G 12)), some (.int x2), some (.int x3), some (.ref (ad G o4)), some (.int r2), none, none, none, none, none, none]) dX1_reckon_5 (by decide) rfl rfl ?_
  refine wp_lconst (v := 1) dX1_reckon_7 (by decide) ?_
  refine wp_lstore (ls' := [some (.ref (ad G 42)), some (.ref (ad G 12)), some (.int x2), some (.int x3), some (.ref (ad G o4)), some (.int r2), some (.long 1), none, none, none, none, none]) dX1_reckon_8 (by decide) rfl rfl ?_
  refine wp_iconst (v := 0) dX1_reckon_10 (by decide) ?_
  refine wp_istore (ls' := [some (.ref (ad G 42)), some (.ref (ad G 12)), some (.int x2), some (.int x3), some (.ref (ad G o4)), some (.int r2), some (.long 1), none, some (.int 0), none, none, none]) dX1_reckon_11 (by decide) rfl rfl ?_
  exact h
abbrev C_X1_lossOf (G : Glob) (o0 : Nat) (x1 : Int32) (x2 : Int32) (M : Mem) (Q : Option Value → Mem → Prop) : Prop := WpM G 2 Y_X1_lossOf [.ref (ad G o0), .int x1, .int x2] M Q
set_option maxRecDepth 20000 in
theorem v_X1_lossOf {G : Glob} {o0 : Nat} {x1 : Int32} {x2 : Int32} {M : Mem} {Q : Option Value → Mem → Prop} (hk0 : kd o0 = 4) (h : (((M.1 o0 0) = 3 → Q (some (.int 0)) M) ∧ (¬ (M.1 o0 0) = 3 → (WpM G 1 Y_X4_isOf [.ref (ad G o0), .int 2] M (RI (fun r3 M2 => ((r3 = 0 → (((M2.1 o0 2) = 0 → Q (some (.int x1)) M2) ∧ (¬ (M2.1 o0 2) = 0 → Q (some (.int x2)) M2))) ∧ (¬ r3 = 0 → Q (some (.int (if x1 < x2 then x2 else x1))) M2)))))))) : C_X1_lossOf G o0 x1 x2 M Q := by
  refine wp_enter (ls0 := [some (.ref (ad G o0)), some (.int x1), some (.int x2)]) (by decide +kernel) (Nat.le_of_ble_eq_true rfl) rfl ?_
  refine wp_aload_n dX1_lossOf_0 rfl rfl ?_
  refine wp_getI dX1_lossOf_1 hk0 fb_4_0 m_1_110 ?_
  refine wp_iconst (v := 3) dX1_lossOf_4 (by decide) ?_
  refine wp_icmp_ne (tgt := 10) dX1_lossOf_5 (by decide) (fun c1 => ?_) (fun c1 => ?_)
  · replace h := h.2 c1
    refine wp_aload_n dX1_lossOf_10 rfl rfl ?_
    refine wp_iconst (v := 2) dX1_lossOf_11 (by decide) ?_
    refine wp_callVI (a := o0) (d1 := 1) (As := [.int 2]) (st := []) dX1_lossOf_12 hk0 cm_X4_isOf m_4_112 (by decide) rfl (Nat.le_of_ble_eq_true rfl) rfl h ?_
    intro r3 M2 h
    refine wp_if_eq (tgt := 24) dX1_lossOf_15 (by decide) (fun c4 => ?_) (fun c4 => ?_)
    · replace h := h.1 c4
      refine wp_aload_n dX1_lossOf_24 rfl rfl ?_
      refine wp_getI dX1_lossOf_25 hk0 fb_4_2 m_1_118 ?_
      refine wp_if_ne (tgt := 35) dX1_lossOf_28 (by decide) (fun c5 => ?_) (fun c5 => ?_)
      · replace h := h.2 c5
        refine wp_iload_n dX1_lossOf_35 rfl rfl ?_
        exact wp_iret (ty := .int) dX1_lossOf_36 rfl rfl h
      · replace h := h.1 c5
        refine wp_iload_n dX1_lossOf_31 rfl rfl ?_
        refine wp_goto (tgt := 36) dX1_lossOf_32 (by decide) ?_
        exact wp_iret (ty := .int) dX1_lossOf_36 rfl rfl h
    · replace h := h.2 c4
      refine wp_iload_n dX1_lossOf_18 rfl rfl ?_
      refine wp_iload_n dX1_lossOf_19 rfl rfl ?_
      refine wp_max m_4_113 (by decide) mw_max (Nat.le_of_ble_eq_true rfl) dX1_lossOf_20 ?_
      exact wp_iret (ty := .int) dX1_lossOf_23 rfl rfl h
  · replace h := h.1 c1
    refine wp_iconst (v := 0) dX1_lossOf_8 (by decide) ?_
    exact wp_iret (ty := .int) dX1_lossOf_9 rfl rfl h
abbrev P_X1_waysTo_6 (G : Glob) (x2 : Int32) (x3 : Int32) (x4 : Int64) (x6 : Int32) (M : Mem) (Q : Option Value → Mem → Prop) : Prop := Wp G 1 Y_X1_waysTo 6 [some (.ref (ad G 42)), some (.ref (ad G 12)), some (.int x2), some (.int x3), some (.long x4), none, some (.int x6)] [] M Q
set_option maxRecDepth 20000 in
theorem v_X1_waysTo_6 {G : Glob} {x2 : Int32} {x3 : Int32} {x4 : Int64} {x6 : Int32} {M : Mem} {Q : Option Value → Mem → Prop}  (h : ((x6 < (M.1 12 2) → (((x3 &&& (1 <<< (x6 &&& 31))) = 0 → (((x2 &&& (1 <<< (x6 &&& 31))) = 0 → P_X1_waysTo_6 G x2 x3 x4 (x6 + 1) M Q) ∧ (¬ (x2 &&& (1 <<< (x6 &&& 31))) = 0 → (vp_in x6 8 ∧ (∀ y5 : Int64, y5 = (x4 * (M.1 43 x6.toNatClampNeg).toInt64) → P_X1_waysTo_6 G x2 x3 y5 (x6 + 1) M Q))))) ∧ (¬ (x3 &&& (1 <<< (x6 &&& 31))) = 0 → (vp_in x6 8 ∧ (∀ y7 : Int64, y7 = (x4 * ((12 : Int32) - (M.1 43 x6.toNatClampNeg)).toInt64) → P_X1_waysTo_6 G x2 x3 y7 (x6 + 1) M Q))))) ∧ (¬ x6 < (M.1 12 2) → Q (some (.long x4)) M))) : P_X1_waysTo_6 G x2 x3 x4 x6 M Q := by
  refine wp_iload dX1_waysTo_6 rfl ?_
  refine wp_aload_n dX1_waysTo_8 rfl rfl ?_
  refine wp_getI dX1_waysTo_9 rfl fb_3_2 m_1_152 ?_
  refine wp_icmp_ge (tgt := 71) dX1_waysTo_12 (by decide) (fun c1 => ?_) (fun c1 => ?_)
  · replace h := h.2 c1
    refine wp_lload dX1_waysTo_71 rfl ?_
    exact wp_lret dX1_waysTo_73 rfl h
  · replace h := h.1 c1
    refine wp_iload_n dX1_waysTo_15 rfl rfl ?_
    refine wp_iconst (v := 1) dX1_waysTo_16 (by decide) ?_
    refine wp_iload dX1_waysTo_17 rfl ?_
    refine wp_ishl dX1_waysTo_19 ?_
    refine wp_iand dX1_waysTo_20 ?_
    refine wp_if_eq (tgt := 43) dX1_waysTo_21 (by decide) (fun c2 => ?_) (fun c2 => ?_)
    · replace h := h.1 c2
      refine wp_iload_n dX1_waysTo_43 rfl rfl ?_
      refine wp_iconst (v := 1) dX1_waysTo_44 (by decide) ?_
      refine wp_iload dX1_waysTo_45 rfl ?_
      refine wp_ishl dX1_waysTo_47 ?_
      refine wp_iand dX1_waysTo_48 ?_
      refine wp_if_eq (tgt := 65) dX1_waysTo_49 (by decide) (fun c3 => ?_) (fun c3 => ?_)
      · replace h := h.1 c3
        refine wp_iinc (v := (x6 + 1)) (ls' := [some (.ref (ad G 42)), some (.ref (ad G 12)), some (.int x2), some (.int x3), some (.long x4), none, some (.int (x6 + 1))]) dX1_waysTo_65 rfl rfl (by decide) rfl rfl ?_
        refine wp_goto (tgt := 6) dX1_waysTo_68 (by decide) ?_
        exact h
      · replace h := h.2 c3
        refine wp_lload dX1_waysTo_52 rfl ?_
        refine wp_aload_n dX1_waysTo_54 rfl rfl ?_
        refine wp_getR (b := 43) dX1_waysTo_55 rfl rfl fb_1_0 m_2_18 ?_
        refine wp_iload dX1_waysTo_58 rfl ?_
        obtain ⟨b4, h⟩ := h
        refine wp_iald (n := 8) dX1_waysTo_60 rfl rfl b4 ?_
        refine wp_i2l dX1_waysTo_61 ?_
        refine wp_lmul dX1_waysTo_62 ?_
        refine wp_topJ (fun y5 hy5 => ?_)
        replace h := h y5 hy5
        refine wp_lstore (ls' := [some (.ref (ad G 42)), some (.ref (ad G 12)), some (.int x2), some (.int x3), some (.long y5), none, some (.int x6)]) dX1_waysTo_63 (by decide) rfl rfl ?_
        refine wp_iinc (v := (x6 + 1)) (ls' := [some (.ref (ad G 42)), some (.ref (ad G 12)), some (.int x2), some (.int x3), some (.long y5), none, some (.int (x6 + 1))]) dX1_waysTo_65 rfl rfl (by decide) rfl rfl ?_
        refine wp_goto (tgt := 6) dX1_waysTo_68 (by decide) ?_
        exact h
    · replace h := h.2 c2
      refine wp_lload dX1_waysTo_24 rfl ?_
      refine wp_bipush (v := 12) dX1_waysTo_26 (by decide) ?_
      refine wp_aload_n dX1_waysTo_28 rfl rfl ?_
      refine wp_getR (b := 43) dX1_waysTo_29 rfl rfl fb_1_0 m_2_18 ?_
      refine wp_iload dX1_waysTo_32 rfl ?_
      obtain ⟨b6, h⟩ := h
      refine wp_iald (n := 8) dX1_waysTo_34 rfl rfl b6 ?_
      refine wp_isub dX1_waysTo_35 ?_
      refine wp_i2l dX1_waysTo_36 ?_
      refine wp_lmul dX1_waysTo_37 ?_
      refine wp_topJ (fun y7 hy7 => ?_)
      replace h := h y7 hy7
      refine wp_lstore (ls' := [some (.ref (ad G 42)), some (.ref (ad G 12)), some (.int x2), some (.int x3), some (.long y7), none, some (.int x6)]) dX1_waysTo_38 (by decide) rfl rfl ?_
      refine wp_goto (tgt := 65) dX1_waysTo_40 (by decide) ?_
      refine wp_iinc (v := (x6 + 1)) (ls' := [some (.ref (ad G 42)), some (.ref (ad G 12)), some (.int x2), some (.int x3), some (.long y7), none, some (.int (x6 + 1))]) dX1_waysTo_65 rfl rfl (by decide) rfl rfl ?_
      refine wp_goto (tgt := 6) dX1_waysTo_68 (by decide) ?_
      exact h
abbrev C_X1_waysTo (G : Glob) (x2 : Int32) (x3 : Int32) (M : Mem) (Q : Option Value → Mem → Prop) : Prop := WpM G 1 Y_X1_waysTo [.ref (ad G 42), .ref (ad G 12), .int x2, .int x3] M Q
set_option maxRecDepth 20000 in
theorem v_X1_waysTo {G : Glob} {x2 : Int32} {x3 : Int32} {M : Mem} {Q : Option Value → Mem → Prop}  (h : P_X1_waysTo_6 G x2 x3 1 0 M Q) : C_X1_waysTo G x2 x3 M Q := by
  refine wp_enter (ls0 := [some (.ref (ad G 42)), some (.ref (ad G 12)), some (.int x2), some (.int x3), none, none, none]) (by decide +kernel) (Nat.le_of_ble_eq_true rfl) rfl ?_
  refine wp_lconst (v := 1) dX1_waysTo_0 (by decide) ?_
  refine wp_lstore (ls' := [some (.ref (ad G 42)), some (.ref (ad G 12)), some (.int x2), some (.int x3), some (.long 1), none, none]) dX1_waysTo_1 (by decide) rfl rfl ?_
  refine wp_iconst (v := 0) dX1_waysTo_3 (by decide) ?_
  refine wp_istore (ls' := [some (.ref (ad G 42)), some (.ref (ad G 12)), some (.int x2), some (.int x3), some (.long 1), none, some (.int 0)]) dX1_waysTo_4 (by decide) rfl rfl ?_
  exact h
abbrev P_X1_commonDivisor_3 (G : Glob) (x0 : Int64) (x2 : Int64) (x4 : Int32) (M : Mem) (Q : Option Value → Mem → Prop) : Prop := Wp G 1 Y_X1_commonDivisor 3 [some (.long x0), none, some (.long x2), none, some (.int x4), none, none] [] M Q
set_option maxRecDepth 20000 in
theorem v_X1_commonDivisor_3 {G : Glob} {x0 : Int64} {x2 : Int64} {x4 : Int32} {M : Mem} {Q : Option Value → Mem → Prop}  (h : ((x4 < 200 → ((lg_cmp x2 0 = 0 → Q (some (.long x0)) M) ∧ (¬ lg_cmp x2 0 = 0 → (¬ x2 = 0 ∧ P_X1_commonDivisor_3 G x2 (x0 - x0 / x2 * x2) (x4 + 1) M Q)))) ∧ (¬ x4 < 200 → Q (some (.long x0)) M))) : P_X1_commonDivisor_3 G x0 x2 x4 M Q := by
  refine wp_iload dX1_commonDivisor_3 rfl ?_
  refine wp_sipush (v := 200) dX1_commonDivisor_5 (by decide) ?_
  refine wp_icmp_ge (tgt := 33) dX1_commonDivisor_8 (by decide) (fun c1 => ?_) (fun c1 => ?_)
  · replace h := h.2 c1
    refine wp_lload_n dX1_commonDivisor_33 rfl rfl ?_
    exact wp_lret dX1_commonDivisor_34 rfl h
  · replace h := h.1 c1
    refine wp_lload_n dX1_commonDivisor_11 rfl rfl ?_
    refine wp_lconst (v := 0) dX1_commonDivisor_12 (by decide) ?_
    refine wp_lcmp dX1_commonDivisor_13 ?_
    refine wp_if_eq (tgt := 33) dX1_commonDivisor_14 (by decide) (fun c2 => ?_) (fun c2 => ?_)
    · replace h := h.1 c2
      refine wp_lload_n dX1_commonDivisor_33 rfl rfl ?_
      exact wp_lret dX1_commonDivisor_34 rfl h
    · replace h := h.2 c2
      refine wp_lload_n dX1_commonDivisor_17 rfl rfl ?_
      refine wp_lload_n dX1_commonDivisor_18 rfl rfl ?_
      refine wp_lrem dX1_commonDivisor_19 h.1 ?_
      replace h := h.2
      refine wp_lstore (ls' := [some (.long x0), none, some (.long x2), none, some (.int x4), some (.long (x0 - x0 / x2 * x2)), none]) dX1_commonDivisor_20 (by decide) rfl rfl ?_
      refine wp_lload_n dX1_commonDivisor_22 rfl rfl ?_
      refine wp_lstore_n (ls' := [some (.long x2), none, some (.long x2), none, some (.int x4), some (.long (x0 - x0 / x2 * x2)), none]) dX1_commonDivisor_23 rfl (by decide) rfl rfl ?_
      refine wp_lload dX1_commonDivisor_24 rfl ?_
      refine wp_lstore_n (ls' := [some (.long x2), none, some (.long (x0 - x0 / x2 * x2)), none, some (.int x4), some (.long (x0 - x0 / x2 * x2)), none]) dX1_commonDivisor_26 rfl (by decide) rfl rfl ?_
      refine wp_iinc (v := (x4 + 1)) (ls' := [some (.long x2), none, some (.long (x0 - x0 / x2 * x2)), none, some (.int (x4 + 1)), some (.long (x0 - x0 / x2 * x2)), none]) dX1_commonDivisor_27 rfl rfl (by decide) rfl rfl ?_
      refine wp_goto (tgt := 3) dX1_commonDivisor_30 (by decide) ?_
      exact wp_mask [true, false, true, false, true, false, false] rfl h
abbrev C_X1_commonDivisor (G : Glob) (x0 : Int64) (x2 : Int64) (M : Mem) (Q : Option Value → Mem → Prop) : Prop := WpM G 1 Y_X1_commonDivisor [.long x0, .long x2] M Q
set_option maxRecDepth 20000 in
theorem v_X1_commonDivisor {G : Glob} {x0 : Int64} {x2 : Int64} {M : Mem} {Q : Option Value → Mem → Prop}  (h : P_X1_commonDivisor_3 G x0 x2 0 M Q) : C_X1_commonDivisor G x0 x2 M Q := by
  refine wp_enter (ls0 := [some (.long x0), none, some (.long x2), none, none, none, none]) (by decide +kernel) (Nat.le_of_ble_eq_true rfl) rfl ?_
  refine wp_iconst (v := 0) dX1_commonDivisor_0 (by decide) ?_
  refine wp_istore (ls' := [some (.long x0), none, some (.long x2), none, some (.int 0), none, none]) dX1_commonDivisor_1 (by decide) rfl rfl ?_
  exact h
