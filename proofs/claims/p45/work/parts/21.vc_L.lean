abbrev C_L_low (G : Glob) (x0 : Int32) (x1 : Int32) (M : Mem) (Q : Option Value → Mem → Prop) : Prop := WpM G 1 Y_L_low [.int x0, .int x1] M Q
set_option maxRecDepth 20000 in
theorem v_L_low {G : Glob} {x0 : Int32} {x1 : Int32} {M : Mem} {Q : Option Value → Mem → Prop}  (h : (¬ x1 = 0 ∧ Q (some (.int ((x0 &&& 2147483647) - (x0 &&& 2147483647) / x1 * x1))) M)) : C_L_low G x0 x1 M Q := by
  refine wp_enter (ls0 := [some (.int x0), some (.int x1)]) (by decide +kernel) (Nat.le_of_ble_eq_true rfl) rfl ?_
  refine wp_iload_n dL_low_0 rfl rfl ?_
  refine wp_ldc (v := 2147483647) m_3_58 dL_low_1 ?_
  refine wp_iand dL_low_3 ?_
  refine wp_iload_n dL_low_4 rfl rfl ?_
  refine wp_irem dL_low_5 h.1 ?_
  replace h := h.2
  exact wp_iret (ty := .int) dL_low_6 rfl rfl h
abbrev P_L_refused_18 (G : Glob) (x2 : Int32) (M : Mem) (Q : Option Value → Mem → Prop) : Prop := Wp G 13 Y_L_refused 18 [some (.ref (ad G 0)), none, some (.int x2)] [] M Q
set_option maxRecDepth 20000 in
theorem v_L_refused_18 {G : Glob} {x2 : Int32} {M : Mem} {Q : Option Value → Mem → Prop}  (h : (WpM G 3 Y_X10_row [.ref (ad G 0), .int x2, .int 0] M (RI (fun r2 M1 => ((r2 = (-1 : Int32) → (WpM G 6 Y_X10_lay [.ref (ad G 0), .int x2, .int 0, .int 0] M1 (RI (fun r5 M4 => ((r5 = (-1 : Int32) → (WpM G 6 Y_X10_at [.ref (ad G 0), .int x2, .int 0] M4 (RI (fun r8 M7 => ((r8 = (-1 : Int32) → (WpM G 5 Y_X10_tear [.ref (ad G 0), .int x2] M7 (RI (fun r11 M10 => ((r11 = (-1 : Int32) → (WpM G 5 Y_X10_copy [.ref (ad G 0), .int 0, .int 0, .int x2, .int 0, .int 0] M10 (RI (fun r14 M13 => ((r14 = (-1 : Int32) → (WpM G 6 Y_X10_mean [.ref (ad G 0), .int x2] M13 (RI (fun r17 M16 => ((r17 = (-1 : Int32) → (WpM G 3 Y_X10_text [.ref (ad G 0), .int x2, .int 0] M16 (RI (fun r20 M19 => ((r20 = (-1 : Int32) → (WpM G 5 Y_X10_put [.ref (ad G 0), .int x2, .int 0, .int 0] M19 (RI (fun r23 M22 => ((r23 = (-1 : Int32) → (WpM G 8 Y_X10_fault [.ref (ad G 0), .int x2] M22 (RI (fun r26 M25 => ((r26 = (-1 : Int32) → (WpM G 8 Y_X10_drawer [.ref (ad G 0), .int x2] M25 (RI (fun r29 M28 => ((r29 = (-1 : Int32) → (WpM G 4 Y_X10_glove [.ref (ad G 0), .int x2, .int 0] M28 (RI (fun r32 M31 => ((r32 = (-1 : Int32) → (WpM G 6 Y_X10_mark [.ref (ad G 0), .int x2, .int 1] M31 (RI (fun r35 M34 => ((r35 = (-1 : Int32) → (WpM G 5 Y_X10_pair [.ref (ad G 0), .int x2, .int 0] M34 (RI (fun r38 M37 => ((r38 = (-1 : Int32) → (WpM G 5 Y_X10_wear [.ref (ad G 0), .int 0, .int x2] M37 (RI (fun r41 M40 => ((r41 = (-1 : Int32) → (WpM G 4 Y_X10_lose [.ref (ad G 0), .int x2] M40 (RI (fun r44 M43 => ((r44 = (-1 : Int32) → (WpM G 4 Y_X10_back [.ref (ad G 0), .int x2] M43 (RI (fun r47 M46 => ((r47 = (-1 : Int32) → (WpM G 4 Y_X10_out [.ref (ad G 0), .int x2] M46 (RI (fun r50 M49 => ((r50 = (-1 : Int32) → (WpM G 4 Y_X10_undo [.ref (ad G 0), .int x2] M49 (RI (fun r53 M52 => ((r53 = (-1 : Int32) → (WpM G 2 Y_X10_keep [.ref (ad G 0), .int x2] M52 (RI (fun r56 M55 => ((r56 = (-1 : Int32) → (WpM G 4 Y_X10_on [.ref (ad G 0), .int x2] M55 (RI (fun r59 M58 => ((r59 = (-1 : Int32) → (WpM G 6 Y_X10_good [.ref (ad G 0), .int x2] M58 (RI (fun r62 M61 => ((r62 = (-1 : Int32) → (WpM G 6 Y_X10_pairs [.ref (ad G 0), .int x2] M61 (RI (fun r65 M64 => ((r65 = (-1 : Int32) → (WpM G 12 Y_X10_days [.ref (ad G 0), .int x2, .int 0] M64 (RI (fun r68 M67 => ((r68 = (-1 : Int32) → (WpM G 6 Y_X10_join [.ref (ad G 0), .int 0, .int x2] M67 (RI (fun r71 M70 => ((r71 = (-1 : Int32) → (WpM G 7 Y_X10_sorts [.ref (ad G 0), .int x2, .int 0] M70 (RI (fun r74 M73 => ((r74 = (-1 : Int32) → (WpM G 7 Y_X10_hands [.ref (ad G 0), .int 0, .int x2] M73 (RI (fun r77 M76 => ((r77 = (-1 : Int32) → (WpM G 7 Y_X10_kinds [.ref (ad G 0), .int x2, .int 0] M76 (RI (fun r80 M79 => ((r80 = (-1 : Int32) → (WpM G 7 Y_X10_test [.ref (ad G 0), .int 0, .int x2] M79 (RI (fun r83 M82 => ((r83 = (-1 : Int32) → (WpM G 10 Y_X10_duel [.ref (ad G 0), .int x2] M82 (RI (fun r86 M85 => ((r86 = (-1 : Int32) → (WpM G 6 Y_X10_odds [.ref (ad G 0), .int 0, .int x2, .int 0] M85 (RI (fun r89 M88 => ((r89 = (-1 : Int32) → (WpM G 6 Y_X10_mid [.ref (ad G 0), .int 0, .int x2] M88 (RI (fun r92 M91 => ((r92 = (-1 : Int32) → (WpM G 6 Y_X10_lots [.ref (ad G 0), .int x2, .int 1] M91 (RI (fun r95 M94 => ((r95 = (-1 : Int32) → (WpM G 5 Y_X10_count [.ref (ad G 0), .int x2] M94 (RI (fun r98 M97 => ((r98 = (-1 : Int32) → (WpM G 1 Y_X10_findings [.ref (ad G 0), .int x2] M97 (RI (fun r101 M100 => ((r101 = (-1 : Int32) → Q (some (.int 1)) M100) ∧ (¬ r101 = (-1 : Int32) → Q (some (.int 0)) M100)))))) ∧ (¬ r98 = (-1 : Int32) → Q (some (.int 0)) M97)))))) ∧ (¬ r95 = (-1 : Int32) → Q (some (.int 0)) M94)))))) ∧ (¬ r92 = (-1 : Int32) → Q (some (.int 0)) M91)))))) ∧ (¬ r89 = (-1 : Int32) → Q (some (.int 0)) M88)))))) ∧ (¬ r86 = (-1 : Int32) → Q (some (.int 0)) M85)))))) ∧ (¬ r83 = (-1 : Int32) → Q (some (.int 0)) M82)))))) ∧ (¬ r80 = (-1 : Int32) → Q (some (.int 0)) M79)))))) ∧ (¬ r77 = (-1 : Int32) → Q (some (.int 0)) M76)))))) ∧ (¬ r74 = (-1 : Int32) → Q (some (.int 0)) M73)))))) ∧ (¬ r71 = (-1 : Int32) → Q (some (.int 0)) M70)))))) ∧ (¬ r68 = (-1 : Int32) → Q (some (.int 0)) M67)))))) ∧ (¬ r65 = (-1 : Int32) → Q (some (.int 0)) M64)))))) ∧ (¬ r62 = (-1 : Int32) → Q (some (.int 0)) M61)))))) ∧ (¬ r59 = (-1 : Int32) → Q (some (.int 0)) M58)))))) ∧ (¬ r56 = (-1 : Int32) → Q (some (.int 0)) M55)))))) ∧ (¬ r53 = (-1 : Int32) → Q (some (.int 0)) M52)))))) ∧ (¬ r50 = (-1 : Int32) → Q (some (.int 0)) M49)))))) ∧ (¬ r47 = (-1 : Int32) → Q (some (.int 0)) M46)))))) ∧ (¬ r44 = (-1 : Int32) → Q (some (.int 0)) M43)))))) ∧ (¬ r41 = (-1 : Int32) → Q (some (.int 0)) M40)))))) ∧ (¬ r38 = (-1 : Int32) → Q (some (.int 0)) M37)))))) ∧ (¬ r35 = (-1 : Int32) → Q (some (.int 0)) M34)))))) ∧ (¬ r32 = (-1 : Int32) → Q (some (.int 0)) M31)))))) ∧ (¬ r29 = (-1 : Int32) → Q (some (.int 0)) M28)))))) ∧ (¬ r26 = (-1 : Int32) → Q (some (.int 0)) M25)))))) ∧ (¬ r23 = (-1 : Int32) → Q (some (.int 0)) M22)))))) ∧ (¬ r20 = (-1 : Int32) → Q (some (.int 0)) M19)))))) ∧ (¬ r17 = (-1 : Int32) → Q (some (.int 0)) M16)))))) ∧ (¬ r14 = (-1 : Int32) → Q (some (.int 0)) M13)))))) ∧ (¬ r11 = (-1 : Int32) → Q (some (.int 0)) M10)))))) ∧ (¬ r8 = (-1 : Int32) → Q (some (.int 0)) M7)))))) ∧ (¬ r5 = (-1 : Int32) → Q (some (.int 0)) M4)))))) ∧ (¬ r2 = (-1 : Int32) → Q (some (.int 0)) M1)))))) : P_L_refused_18 G x2 M Q := by
  refine wp_aload_n dL_refused_18 rfl rfl ?_
  refine wp_iload_n dL_refused_19 rfl rfl ?_
  refine wp_iconst (v := 0) dL_refused_20 (by decide) ?_
  refine wp_callVI (a := 0) (d1 := 3) (As := [.int x2, .int 0]) (st := []) dL_refused_21 rfl cm_X10_row m_3_62 (by decide) rfl (Nat.le_of_ble_eq_true rfl) rfl h ?_
  intro r2 M1 h
  refine wp_iconst (v := (-1 : Int32)) dL_refused_24 (by decide) ?_
  refine wp_icmp_ne (tgt := 353) dL_refused_25 (by decide) (fun c3 => ?_) (fun c3 => ?_)
  · replace h := h.2 c3
    refine wp_iconst (v := 0) dL_refused_353 (by decide) ?_
    exact wp_iret (ty := .boolean) dL_refused_354 rfl rfl h
  · replace h := h.1 c3
    refine wp_aload_n dL_refused_28 rfl rfl ?_
    refine wp_iload_n dL_refused_29 rfl rfl ?_
    refine wp_iconst (v := 0) dL_refused_30 (by decide) ?_
    refine wp_iconst (v := 0) dL_refused_31 (by decide) ?_
    refine wp_callVI (a := 0) (d1 := 6) (As := [.int x2, .int 0, .int 0]) (st := []) dL_refused_32 rfl cm_X10_lay m_3_71 (by decide) rfl (Nat.le_of_ble_eq_true rfl) rfl h ?_
    intro r5 M4 h
    refine wp_iconst (v := (-1 : Int32)) dL_refused_35 (by decide) ?_
    refine wp_icmp_ne (tgt := 353) dL_refused_36 (by decide) (fun c6 => ?_) (fun c6 => ?_)
    · replace h := h.2 c6
      refine wp_iconst (v := 0) dL_refused_353 (by decide) ?_
      exact wp_iret (ty := .boolean) dL_refused_354 rfl rfl h
    · replace h := h.1 c6
      refine wp_aload_n dL_refused_39 rfl rfl ?_
      refine wp_iload_n dL_refused_40 rfl rfl ?_
      refine wp_iconst (v := 0) dL_refused_41 (by decide) ?_
      refine wp_callVI (a := 0) (d1 := 6) (As := [.int x2, .int 0]) (st := []) dL_refused_42 rfl cm_X10_at m_3_94 (by decide) rfl (Nat.le_of_ble_eq_true rfl) rfl h ?_
      intro r8 M7 h
      refine wp_iconst (v := (-1 : Int32)) dL_refused_45 (by decide) ?_
      refine wp_icmp_ne (tgt := 353) dL_refused_46 (by decide) (fun c9 => ?_) (fun c9 => ?_)
      · replace h := h.2 c9
        refine wp_iconst (v := 0) dL_refused_353 (by decide) ?_
        exact wp_iret (ty := .boolean) dL_refused_354 rfl rfl h
      · replace h := h.1 c9
        refine wp_aload_n dL_refused_49 rfl rfl ?_
        refine wp_iload_n dL_refused_50 rfl rfl ?_
        refine wp_callVI (a := 0) (d1 := 5) (As := [.int x2]) (st := []) dL_refused_51 rfl cm_X10_tear m_3_98 (by decide) rfl (Nat.le_of_ble_eq_true rfl) rfl h ?_
        intro r11 M10 h
        refine wp_iconst (v := (-1 : Int32)) dL_refused_54 (by decide) ?_
        refine wp_icmp_ne (tgt := 353) dL_refused_55 (by decide) (fun c12 => ?_) (fun c12 => ?_)
        · replace h := h.2 c12
          refine wp_iconst (v := 0) dL_refused_353 (by decide) ?_
          exact wp_iret (ty := .boolean) dL_refused_354 rfl rfl h
        · replace h := h.1 c12
          refine wp_aload_n dL_refused_58 rfl rfl ?_
          refine wp_iconst (v := 0) dL_refused_59 (by decide) ?_
          refine wp_iconst (v := 0) dL_refused_60 (by decide) ?_
          refine wp_iload_n dL_refused_61 rfl rfl ?_
          refine wp_iconst (v := 0) dL_refused_62 (by decide) ?_
          refine wp_iconst (v := 0) dL_refused_63 (by decide) ?_
          refine wp_callVI (a := 0) (d1 := 5) (As := [.int 0, .int 0, .int x2, .int 0, .int 0]) (st := []) dL_refused_64 rfl cm_X10_copy m_3_106 (by decide) rfl (Nat.le_of_ble_eq_true rfl) rfl h ?_
          intro r14 M13 h
          refine wp_iconst (v := (-1 : Int32)) dL_refused_67 (by decide) ?_
          refine wp_icmp_ne (tgt := 353) dL_refused_68 (by decide) (fun c15 => ?_) (fun c15 => ?_)
          · replace h := h.2 c15
            refine wp_iconst (v := 0) dL_refused_353 (by decide) ?_
            exact wp_iret (ty := .boolean) dL_refused_354 rfl rfl h
          · replace h := h.1 c15
            refine wp_aload_n dL_refused_71 rfl rfl ?_
            refine wp_iload_n dL_refused_72 rfl rfl ?_
            refine wp_callVI (a := 0) (d1 := 6) (As := [.int x2]) (st := []) dL_refused_73 rfl cm_X10_mean m_3_122 (by decide) rfl (Nat.le_of_ble_eq_true rfl) rfl h ?_
            intro r17 M16 h
            refine wp_iconst (v := (-1 : Int32)) dL_refused_76 (by decide) ?_
            refine wp_icmp_ne (tgt := 353) dL_refused_77 (by decide) (fun c18 => ?_) (fun c18 => ?_)
            · replace h := h.2 c18
              refine wp_iconst (v := 0) dL_refused_353 (by decide) ?_
              exact wp_iret (ty := .boolean) dL_refused_354 rfl rfl h
            · replace h := h.1 c18
              refine wp_aload_n dL_refused_80 rfl rfl ?_
              refine wp_iload_n dL_refused_81 rfl rfl ?_
              refine wp_iconst (v := 0) dL_refused_82 (by decide) ?_
              refine wp_callVI (a := 0) (d1 := 3) (As := [.int x2, .int 0]) (st := []) dL_refused_83 rfl cm_X10_text m_3_131 (by decide) rfl (Nat.le_of_ble_eq_true rfl) rfl h ?_
              intro r20 M19 h
              refine wp_iconst (v := (-1 : Int32)) dL_refused_86 (by decide) ?_
              refine wp_icmp_ne (tgt := 353) dL_refused_87 (by decide) (fun c21 => ?_) (fun c21 => ?_)
              · replace h := h.2 c21
                refine wp_iconst (v := 0) dL_refused_353 (by decide) ?_
                exact wp_iret (ty := .boolean) dL_refused_354 rfl rfl h
              · replace h := h.1 c21
                refine wp_aload_n dL_refused_90 rfl rfl ?_
                refine wp_iload_n dL_refused_91 rfl rfl ?_
                refine wp_iconst (v := 0) dL_refused_92 (by decide) ?_
                refine wp_iconst (v := 0) dL_refused_93 (by decide) ?_
                refine wp_callVI (a := 0) (d1 := 5) (As := [.int x2, .int 0, .int 0]) (st := []) dL_refused_94 rfl cm_X10_put m_3_135 (by decide) rfl (Nat.le_of_ble_eq_true rfl) rfl h ?_
                intro r23 M22 h
                refine wp_iconst (v := (-1 : Int32)) dL_refused_97 (by decide) ?_
                refine wp_icmp_ne (tgt := 353) dL_refused_98 (by decide) (fun c24 => ?_) (fun c24 => ?_)
                · replace h := h.2 c24
                  refine wp_iconst (v := 0) dL_refused_353 (by decide) ?_
                  exact wp_iret (ty := .boolean) dL_refused_354 rfl rfl h
                · replace h := h.1 c24
                  refine wp_aload_n dL_refused_101 rfl rfl ?_
                  refine wp_iload_n dL_refused_102 rfl rfl ?_
                  refine wp_callVI (a := 0) (d1 := 8) (As := [.int x2]) (st := []) dL_refused_103 rfl cm_X10_fault m_3_143 (by decide) rfl (Nat.le_of_ble_eq_true rfl) rfl h ?_
                  intro r26 M25 h
                  refine wp_iconst (v := (-1 : Int32)) dL_refused_106 (by decide) ?_
                  refine wp_icmp_ne (tgt := 353) dL_refused_107 (by decide) (fun c27 => ?_) (fun c27 => ?_)
                  · replace h := h.2 c27
                    refine wp_iconst (v := 0) dL_refused_353 (by decide) ?_
                    exact wp_iret (ty := .boolean) dL_refused_354 rfl rfl h
                  · replace h := h.1 c27
                    refine wp_aload_n dL_refused_110 rfl rfl ?_
                    refine wp_iload_n dL_refused_111 rfl rfl ?_
                    refine wp_callVI (a := 0) (d1 := 8) (As := [.int x2]) (st := []) dL_refused_112 rfl cm_X10_drawer m_3_167 (by decide) rfl (Nat.le_of_ble_eq_true rfl) rfl h ?_
                    intro r29 M28 h
                    refine wp_iconst (v := (-1 : Int32)) dL_refused_115 (by decide) ?_
                    refine wp_icmp_ne (tgt := 353) dL_refused_116 (by decide) (fun c30 => ?_) (fun c30 => ?_)
                    · replace h := h.2 c30
                      refine wp_iconst (v := 0) dL_refused_353 (by decide) ?_
                      exact wp_iret (ty := .boolean) dL_refused_354 rfl rfl h
                    · replace h := h.1 c30
                      refine wp_aload_n dL_refused_119 rfl rfl ?_
                      refine wp_iload_n dL_refused_120 rfl rfl ?_
                      refine wp_iconst (v := 0) dL_refused_121 (by decide) ?_
                      refine wp_callVI (a := 0) (d1 := 4) (As := [.int x2, .int 0]) (st := []) dL_refused_122 rfl cm_X10_glove m_3_176 (by decide) rfl (Nat.le_of_ble_eq_true rfl) rfl h ?_
                      intro r32 M31 h
                      refine wp_iconst (v := (-1 : Int32)) dL_refused_125 (by decide) ?_
                      refine wp_icmp_ne (tgt := 353) dL_refused_126 (by decide) (fun c33 => ?_) (fun c33 => ?_)
                      · replace h := h.2 c33
                        refine wp_iconst (v := 0) dL_refused_353 (by decide) ?_
                        exact wp_iret (ty := .boolean) dL_refused_354 rfl rfl h
                      · replace h := h.1 c33
                        refine wp_aload_n dL_refused_129 rfl rfl ?_
                        refine wp_iload_n dL_refused_130 rfl rfl ?_
                        refine wp_iconst (v := 1) dL_refused_131 (by decide) ?_
                        refine wp_callVI (a := 0) (d1 := 6) (As := [.int x2, .int 1]) (st := []) dL_refused_132 rfl cm_X10_mark m_3_180 (by decide) rfl (Nat.le_of_ble_eq_true rfl) rfl h ?_
                        intro r35 M34 h
                        refine wp_iconst (v := (-1 : Int32)) dL_refused_135 (by decide) ?_
                        refine wp_icmp_ne (tgt := 353) dL_refused_136 (by decide) (fun c36 => ?_) (fun c36 => ?_)
                        · replace h := h.2 c36
                          refine wp_iconst (v := 0) dL_refused_353 (by decide) ?_
                          exact wp_iret (ty := .boolean) dL_refused_354 rfl rfl h
                        · replace h := h.1 c36
                          refine wp_aload_n dL_refused_139 rfl rfl ?_
                          refine wp_iload_n dL_refused_140 rfl rfl ?_
                          refine wp_iconst (v := 0) dL_refused_141 (by decide) ?_
                          refine wp_callVI (a := 0) (d1 := 5) (As := [.int x2, .int 0]) (st := []) dL_refused_142 rfl cm_X10_pair m_3_206 (by decide) rfl (Nat.le_of_ble_eq_true rfl) rfl h ?_
                          intro r38 M37 h
                          refine wp_iconst (v := (-1 : Int32)) dL_refused_145 (by decide) ?_
                          refine wp_icmp_ne (tgt := 353) dL_refused_146 (by decide) (fun c39 => ?_) (fun c39 => ?_)
                          · replace h := h.2 c39
                            refine wp_iconst (v := 0) dL_refused_353 (by decide) ?_
                            exact wp_iret (ty := .boolean) dL_refused_354 rfl rfl h
                          · replace h := h.1 c39
                            refine wp_aload_n dL_refused_149 rfl rfl ?_
                            refine wp_iconst (v := 0) dL_refused_150 (by decide) ?_
                            refine wp_iload_n dL_refused_151 rfl rfl ?_
                            refine wp_callVI (a := 0) (d1 := 5) (As := [.int 0, .int x2]) (st := []) dL_refused_152 rfl cm_X10_wear m_2_70 (by decide) rfl (Nat.le_of_ble_eq_true rfl) rfl h ?_
                            intro r41 M40 h
                            refine wp_iconst (v := (-1 : Int32)) dL_refused_155 (by decide) ?_
                            refine wp_icmp_ne (tgt := 353) dL_refused_156 (by decide) (fun c42 => ?_) (fun c42 => ?_)
                            · replace h := h.2 c42
                              refine wp_iconst (v := 0) dL_refused_353 (by decide) ?_
                              exact wp_iret (ty := .boolean) dL_refused_354 rfl rfl h
                            · replace h := h.1 c42
                              refine wp_aload_n dL_refused_159 rfl rfl ?_
                              refine wp_iload_n dL_refused_160 rfl rfl ?_
                              refine wp_callVI (a := 0) (d1 := 4) (As := [.int x2]) (st := []) dL_refused_161 rfl cm_X10_lose m_2_127 (by decide) rfl (Nat.le_of_ble_eq_true rfl) rfl h ?_
                              intro r44 M43 h
                              refine wp_iconst (v := (-1 : Int32)) dL_refused_164 (by decide) ?_
                              refine wp_icmp_ne (tgt := 353) dL_refused_165 (by decide) (fun c45 => ?_) (fun c45 => ?_)
                              · replace h := h.2 c45
                                refine wp_iconst (v := 0) dL_refused_353 (by decide) ?_
                                exact wp_iret (ty := .boolean) dL_refused_354 rfl rfl h
                              · replace h := h.1 c45
                                refine wp_aload_n dL_refused_168 rfl rfl ?_
                                refine wp_iload_n dL_refused_169 rfl rfl ?_
                                refine wp_callVI (a := 0) (d1 := 4) (As := [.int x2]) (st := []) dL_refused_170 rfl cm_X10_back m_3_210 (by decide) rfl (Nat.le_of_ble_eq_true rfl) rfl h ?_
                                intro r47 M46 h
                                refine wp_iconst (v := (-1 : Int32)) dL_refused_173 (by decide) ?_
                                refine wp_icmp_ne (tgt := 353) dL_refused_174 (by decide) (fun c48 => ?_) (fun c48 => ?_)
                                · replace h := h.2 c48
                                  refine wp_iconst (v := 0) dL_refused_353 (by decide) ?_
                                  exact wp_iret (ty := .boolean) dL_refused_354 rfl rfl h
                                · replace h := h.1 c48
                                  refine wp_aload_n dL_refused_177 rfl rfl ?_
                                  refine wp_iload_n dL_refused_178 rfl rfl ?_
                                  refine wp_callVI (a := 0) (d1 := 4) (As := [.int x2]) (st := []) dL_refused_179 rfl cm_X10_out m_2_150 (by decide) rfl (Nat.le_of_ble_eq_true rfl) rfl h ?_
                                  intro r50 M49 h
                                  refine wp_iconst (v := (-1 : Int32)) dL_refused_182 (by decide) ?_
                                  refine wp_icmp_ne (tgt := 353) dL_refused_183 (by decide) (fun c51 => ?_) (fun c51 => ?_)
                                  · replace h := h.2 c51
                                    refine wp_iconst (v := 0) dL_refused_353 (by decide) ?_
                                    exact wp_iret (ty := .boolean) dL_refused_354 rfl rfl h
                                  · replace h := h.1 c51
                                    refine wp_aload_n dL_refused_186 rfl rfl ?_
                                    refine wp_iload_n dL_refused_187 rfl rfl ?_
                                    refine wp_callVI (a := 0) (d1 := 4) (As := [.int x2]) (st := []) dL_refused_188 rfl cm_X10_undo m_2_154 (by decide) rfl (Nat.le_of_ble_eq_true rfl) rfl h ?_
                                    intro r53 M52 h
                                    refine wp_iconst (v := (-1 : Int32)) dL_refused_191 (by decide) ?_
                                    refine wp_icmp_ne (tgt := 353) dL_refused_192 (by decide) (fun c54 => ?_) (fun c54 => ?_)
                                    · replace h := h.2 c54
                                      refine wp_iconst (v := 0) dL_refused_353 (by decide) ?_
                                      exact wp_iret (ty := .boolean) dL_refused_354 rfl rfl h
                                    · replace h := h.1 c54
                                      refine wp_aload_n dL_refused_195 rfl rfl ?_
                                      refine wp_iload_n dL_refused_196 rfl rfl ?_
                                      refine wp_callVI (a := 0) (d1 := 2) (As := [.int x2]) (st := []) dL_refused_197 rfl cm_X10_keep m_2_162 (by decide) rfl (Nat.le_of_ble_eq_true rfl) rfl h ?_
                                      intro r56 M55 h
                                      refine wp_iconst (v := (-1 : Int32)) dL_refused_200 (by decide) ?_
                                      refine wp_icmp_ne (tgt := 353) dL_refused_201 (by decide) (fun c57 => ?_) (fun c57 => ?_)
                                      · replace h := h.2 c57
                                        refine wp_iconst (v := 0) dL_refused_353 (by decide) ?_
                                        exact wp_iret (ty := .boolean) dL_refused_354 rfl rfl h
                                      · replace h := h.1 c57
                                        refine wp_aload_n dL_refused_204 rfl rfl ?_
                                        refine wp_iload_n dL_refused_205 rfl rfl ?_
                                        refine wp_callVI (a := 0) (d1 := 4) (As := [.int x2]) (st := []) dL_refused_206 rfl cm_X10_on m_2_170 (by decide) rfl (Nat.le_of_ble_eq_true rfl) rfl h ?_
                                        intro r59 M58 h
                                        refine wp_iconst (v := (-1 : Int32)) dL_refused_209 (by decide) ?_
                                        refine wp_icmp_ne (tgt := 353) dL_refused_210 (by decide) (fun c60 => ?_) (fun c60 => ?_)
                                        · replace h := h.2 c60
                                          refine wp_iconst (v := 0) dL_refused_353 (by decide) ?_
                                          exact wp_iret (ty := .boolean) dL_refused_354 rfl rfl h
                                        · replace h := h.1 c60
                                          refine wp_aload_n dL_refused_213 rfl rfl ?_
                                          refine wp_iload_n dL_refused_214 rfl rfl ?_
                                          refine wp_callVI (a := 0) (d1 := 6) (As := [.int x2]) (st := []) dL_refused_215 rfl cm_X10_good m_3_215 (by decide) rfl (Nat.le_of_ble_eq_true rfl) rfl h ?_
                                          intro r62 M61 h
                                          refine wp_iconst (v := (-1 : Int32)) dL_refused_218 (by decide) ?_
                                          refine wp_icmp_ne (tgt := 353) dL_refused_219 (by decide) (fun c63 => ?_) (fun c63 => ?_)
                                          · replace h := h.2 c63
                                            refine wp_iconst (v := 0) dL_refused_353 (by decide) ?_
                                            exact wp_iret (ty := .boolean) dL_refused_354 rfl rfl h
                                          · replace h := h.1 c63
                                            refine wp_aload_n dL_refused_222 rfl rfl ?_
                                            refine wp_iload_n dL_refused_223 rfl rfl ?_
                                            refine wp_callVI (a := 0) (d1 := 6) (As := [.int x2]) (st := []) dL_refused_224 rfl cm_X10_pairs m_3_223 (by decide) rfl (Nat.le_of_ble_eq_true rfl) rfl h ?_
                                            intro r65 M64 h
                                            refine wp_iconst (v := (-1 : Int32)) dL_refused_227 (by decide) ?_
                                            refine wp_icmp_ne (tgt := 353) dL_refused_228 (by decide) (fun c66 => ?_) (fun c66 => ?_)
                                            · replace h := h.2 c66
                                              refine wp_iconst (v := 0) dL_refused_353 (by decide) ?_
                                              exact wp_iret (ty := .boolean) dL_refused_354 rfl rfl h
                                            · replace h := h.1 c66
                                              refine wp_aload_n dL_refused_231 rfl rfl ?_
                                              refine wp_iload_n dL_refused_232 rfl rfl ?_
                                              refine wp_iconst (v := 0) dL_refused_233 (by decide) ?_
                                              refine wp_callVI (a := 0) (d1 := 12) (As := [.int x2, .int 0]) (st := []) dL_refused_234 rfl cm_X10_days m_3_237 (by decide) rfl (Nat.le_of_ble_eq_true rfl) rfl h ?_
                                              intro r68 M67 h
                                              refine wp_iconst (v := (-1 : Int32)) dL_refused_237 (by decide) ?_
                                              refine wp_icmp_ne (tgt := 353) dL_refused_238 (by decide) (fun c69 => ?_) (fun c69 => ?_)
                                              · replace h := h.2 c69
                                                refine wp_iconst (v := 0) dL_refused_353 (by decide) ?_
                                                exact wp_iret (ty := .boolean) dL_refused_354 rfl rfl h
                                              · replace h := h.1 c69
                                                refine wp_aload_n dL_refused_241 rfl rfl ?_
                                                refine wp_iconst (v := 0) dL_refused_242 (by decide) ?_
                                                refine wp_iload_n dL_refused_243 rfl rfl ?_
                                                refine wp_callVI (a := 0) (d1 := 6) (As := [.int 0, .int x2]) (st := []) dL_refused_244 rfl cm_X10_join m_4_18 (by decide) rfl (Nat.le_of_ble_eq_true rfl) rfl h ?_
                                                intro r71 M70 h
                                                refine wp_iconst (v := (-1 : Int32)) dL_refused_247 (by decide) ?_
                                                refine wp_icmp_ne (tgt := 353) dL_refused_248 (by decide) (fun c72 => ?_) (fun c72 => ?_)
                                                · replace h := h.2 c72
                                                  refine wp_iconst (v := 0) dL_refused_353 (by decide) ?_
                                                  exact wp_iret (ty := .boolean) dL_refused_354 rfl rfl h
                                                · replace h := h.1 c72
                                                  refine wp_aload_n dL_refused_251 rfl rfl ?_
                                                  refine wp_iload_n dL_refused_252 rfl rfl ?_
                                                  refine wp_iconst (v := 0) dL_refused_253 (by decide) ?_
                                                  refine wp_callVI (a := 0) (d1 := 7) (As := [.int x2, .int 0]) (st := []) dL_refused_254 rfl cm_X10_sorts m_4_22 (by decide) rfl (Nat.le_of_ble_eq_true rfl) rfl h ?_
                                                  intro r74 M73 h
                                                  refine wp_iconst (v := (-1 : Int32)) dL_refused_257 (by decide) ?_
                                                  refine wp_icmp_ne (tgt := 353) dL_refused_258 (by decide) (fun c75 => ?_) (fun c75 => ?_)
                                                  · replace h := h.2 c75
                                                    refine wp_iconst (v := 0) dL_refused_353 (by decide) ?_
                                                    exact wp_iret (ty := .boolean) dL_refused_354 rfl rfl h
                                                  · replace h := h.1 c75
                                                    refine wp_aload_n dL_refused_261 rfl rfl ?_
                                                    refine wp_iconst (v := 0) dL_refused_262 (by decide) ?_
                                                    refine wp_iload_n dL_refused_263 rfl rfl ?_
                                                    refine wp_callVI (a := 0) (d1 := 7) (As := [.int 0, .int x2]) (st := []) dL_refused_264 rfl cm_X10_hands m_4_45 (by decide) rfl (Nat.le_of_ble_eq_true rfl) rfl h ?_
                                                    intro r77 M76 h
                                                    refine wp_iconst (v := (-1 : Int32)) dL_refused_267 (by decide) ?_
                                                    refine wp_icmp_ne (tgt := 353) dL_refused_268 (by decide) (fun c78 => ?_) (fun c78 => ?_)
                                                    · replace h := h.2 c78
                                                      refine wp_iconst (v := 0) dL_refused_353 (by decide) ?_
                                                      exact wp_iret (ty := .boolean) dL_refused_354 rfl rfl h
                                                    · replace h := h.1 c78
                                                      refine wp_aload_n dL_refused_271 rfl rfl ?_
                                                      refine wp_iload_n dL_refused_272 rfl rfl ?_
                                                      refine wp_iconst (v := 0) dL_refused_273 (by decide) ?_
                                                      refine wp_callVI (a := 0) (d1 := 7) (As := [.int x2, .int 0]) (st := []) dL_refused_274 rfl cm_X10_kinds m_4_53 (by decide) rfl (Nat.le_of_ble_eq_true rfl) rfl h ?_
                                                      intro r80 M79 h
                                                      refine wp_iconst (v := (-1 : Int32)) dL_refused_277 (by decide) ?_
                                                      refine wp_icmp_ne (tgt := 353) dL_refused_278 (by decide) (fun c81 => ?_) (fun c81 => ?_)
                                                      · replace h := h.2 c81
                                                        refine wp_iconst (v := 0) dL_refused_353 (by decide) ?_
                                                        exact wp_iret (ty := .boolean) dL_refused_354 rfl rfl h
                                                      · replace h := h.1 c81
                                                        refine wp_aload_n dL_refused_281 rfl rfl ?_
                                                        refine wp_iconst (v := 0) dL_refused_282 (by decide) ?_
                                                        refine wp_iload_n dL_refused_283 rfl rfl ?_
                                                        refine wp_callVI (a := 0) (d1 := 7) (As := [.int 0, .int x2]) (st := []) dL_refused_284 rfl cm_X10_test m_4_61 (by decide) rfl (Nat.le_of_ble_eq_true rfl) rfl h ?_
                                                        intro r83 M82 h
                                                        refine wp_iconst (v := (-1 : Int32)) dL_refused_287 (by decide) ?_
                                                        refine wp_icmp_ne (tgt := 353) dL_refused_288 (by decide) (fun c84 => ?_) (fun c84 => ?_)
                                                        · replace h := h.2 c84
                                                          refine wp_iconst (v := 0) dL_refused_353 (by decide) ?_
                                                          exact wp_iret (ty := .boolean) dL_refused_354 rfl rfl h
                                                        · replace h := h.1 c84
                                                          refine wp_aload_n dL_refused_291 rfl rfl ?_
                                                          refine wp_iload_n dL_refused_292 rfl rfl ?_
                                                          refine wp_callVI (a := 0) (d1 := 10) (As := [.int x2]) (st := []) dL_refused_293 rfl cm_X10_duel m_4_79 (by decide) rfl (Nat.le_of_ble_eq_true rfl) rfl h ?_
                                                          intro r86 M85 h
                                                          refine wp_iconst (v := (-1 : Int32)) dL_refused_296 (by decide) ?_
                                                          refine wp_icmp_ne (tgt := 353) dL_refused_297 (by decide) (fun c87 => ?_) (fun c87 => ?_)
                                                          · replace h := h.2 c87
                                                            refine wp_iconst (v := 0) dL_refused_353 (by decide) ?_
                                                            exact wp_iret (ty := .boolean) dL_refused_354 rfl rfl h
                                                          · replace h := h.1 c87
                                                            refine wp_aload_n dL_refused_300 rfl rfl ?_
                                                            refine wp_iconst (v := 0) dL_refused_301 (by decide) ?_
                                                            refine wp_iload_n dL_refused_302 rfl rfl ?_
                                                            refine wp_iconst (v := 0) dL_refused_303 (by decide) ?_
                                                            refine wp_callVI (a := 0) (d1 := 6) (As := [.int 0, .int x2, .int 0]) (st := []) dL_refused_304 rfl cm_X10_odds m_4_93 (by decide) rfl (Nat.le_of_ble_eq_true rfl) rfl h ?_
                                                            intro r89 M88 h
                                                            refine wp_iconst (v := (-1 : Int32)) dL_refused_307 (by decide) ?_
                                                            refine wp_icmp_ne (tgt := 353) dL_refused_308 (by decide) (fun c90 => ?_) (fun c90 => ?_)
                                                            · replace h := h.2 c90
                                                              refine wp_iconst (v := 0) dL_refused_353 (by decide) ?_
                                                              exact wp_iret (ty := .boolean) dL_refused_354 rfl rfl h
                                                            · replace h := h.1 c90
                                                              refine wp_aload_n dL_refused_311 rfl rfl ?_
                                                              refine wp_iconst (v := 0) dL_refused_312 (by decide) ?_
                                                              refine wp_iload_n dL_refused_313 rfl rfl ?_
                                                              refine wp_callVI (a := 0) (d1 := 6) (As := [.int 0, .int x2]) (st := []) dL_refused_314 rfl cm_X10_mid m_4_122 (by decide) rfl (Nat.le_of_ble_eq_true rfl) rfl h ?_
                                                              intro r92 M91 h
                                                              refine wp_iconst (v := (-1 : Int32)) dL_refused_317 (by decide) ?_
                                                              refine wp_icmp_ne (tgt := 353) dL_refused_318 (by decide) (fun c93 => ?_) (fun c93 => ?_)
                                                              · replace h := h.2 c93
                                                                refine wp_iconst (v := 0) dL_refused_353 (by decide) ?_
                                                                exact wp_iret (ty := .boolean) dL_refused_354 rfl rfl h
                                                              · replace h := h.1 c93
                                                                refine wp_aload_n dL_refused_321 rfl rfl ?_
                                                                refine wp_iload_n dL_refused_322 rfl rfl ?_
                                                                refine wp_iconst (v := 1) dL_refused_323 (by decide) ?_
                                                                refine wp_callVI (a := 0) (d1 := 6) (As := [.int x2, .int 1]) (st := []) dL_refused_324 rfl cm_X10_lots m_2_210 (by decide) rfl (Nat.le_of_ble_eq_true rfl) rfl h ?_
                                                                intro r95 M94 h
                                                                refine wp_iconst (v := (-1 : Int32)) dL_refused_327 (by decide) ?_
                                                                refine wp_icmp_ne (tgt := 353) dL_refused_328 (by decide) (fun c96 => ?_) (fun c96 => ?_)
                                                                · replace h := h.2 c96
                                                                  refine wp_iconst (v := 0) dL_refused_353 (by decide) ?_
                                                                  exact wp_iret (ty := .boolean) dL_refused_354 rfl rfl h
                                                                · replace h := h.1 c96
                                                                  refine wp_aload_n dL_refused_331 rfl rfl ?_
                                                                  refine wp_iload_n dL_refused_332 rfl rfl ?_
                                                                  refine wp_callVI (a := 0) (d1 := 5) (As := [.int x2]) (st := []) dL_refused_333 rfl cm_X10_count m_2_233 (by decide) rfl (Nat.le_of_ble_eq_true rfl) rfl h ?_
                                                                  intro r98 M97 h
                                                                  refine wp_iconst (v := (-1 : Int32)) dL_refused_336 (by decide) ?_
                                                                  refine wp_icmp_ne (tgt := 353) dL_refused_337 (by decide) (fun c99 => ?_) (fun c99 => ?_)
                                                                  · replace h := h.2 c99
                                                                    refine wp_iconst (v := 0) dL_refused_353 (by decide) ?_
                                                                    exact wp_iret (ty := .boolean) dL_refused_354 rfl rfl h
                                                                  · replace h := h.1 c99
                                                                    refine wp_aload_n dL_refused_340 rfl rfl ?_
                                                                    refine wp_iload_n dL_refused_341 rfl rfl ?_
                                                                    refine wp_callVI (a := 0) (d1 := 1) (As := [.int x2]) (st := []) dL_refused_342 rfl cm_X10_findings m_4_126 (by decide) rfl (Nat.le_of_ble_eq_true rfl) rfl h ?_
                                                                    intro r101 M100 h
                                                                    refine wp_iconst (v := (-1 : Int32)) dL_refused_345 (by decide) ?_
                                                                    refine wp_icmp_ne (tgt := 353) dL_refused_346 (by decide) (fun c102 => ?_) (fun c102 => ?_)
                                                                    · replace h := h.2 c102
                                                                      refine wp_iconst (v := 0) dL_refused_353 (by decide) ?_
                                                                      exact wp_iret (ty := .boolean) dL_refused_354 rfl rfl h
                                                                    · replace h := h.1 c102
                                                                      refine wp_iconst (v := 1) dL_refused_349 (by decide) ?_
                                                                      refine wp_goto (tgt := 354) dL_refused_350 (by decide) ?_
                                                                      exact wp_iret (ty := .boolean) dL_refused_354 rfl rfl h
abbrev C_L_refused (G : Glob) (x1 : Int32) (M : Mem) (Q : Option Value → Mem → Prop) : Prop := WpM G 13 Y_L_refused [.ref (ad G 0), .int x1] M Q
set_option maxRecDepth 20000 in
theorem v_L_refused {G : Glob} {x1 : Int32} {M : Mem} {Q : Option Value → Mem → Prop}  (h : ((x1 < 0 → P_L_refused_18 G (x1 - 999) M Q) ∧ (¬ x1 < 0 → P_L_refused_18 G (x1 + 1000) M Q))) : C_L_refused G x1 M Q := by
  refine wp_enter (ls0 := [some (.ref (ad G 0)), some (.int x1), none]) (by decide +kernel) (Nat.le_of_ble_eq_true rfl) rfl ?_
  refine wp_iload_n dL_refused_0 rfl rfl ?_
  refine wp_if_ge (tgt := 12) dL_refused_1 (by decide) (fun c1 => ?_) (fun c1 => ?_)
  · replace h := h.2 c1
    refine wp_iload_n dL_refused_12 rfl rfl ?_
    refine wp_sipush (v := 1000) dL_refused_13 (by decide) ?_
    refine wp_iadd dL_refused_16 ?_
    refine wp_istore_n (ls' := [some (.ref (ad G 0)), some (.int x1), some (.int (x1 + 1000))]) dL_refused_17 rfl (by decide) rfl rfl ?_
    exact wp_mask [true, false, true] rfl h
  · replace h := h.1 c1
    refine wp_iload_n dL_refused_4 rfl rfl ?_
    refine wp_sipush (v := 999) dL_refused_5 (by decide) ?_
    refine wp_isub dL_refused_8 ?_
    refine wp_goto (tgt := 17) dL_refused_9 (by decide) ?_
    refine wp_istore_n (ls' := [some (.ref (ad G 0)), some (.int x1), some (.int (x1 - 999))]) dL_refused_17 rfl (by decide) rfl rfl ?_
    exact wp_mask [true, false, true] rfl h
abbrev C_L_drawer (G : Glob)  (M : Mem) (Q : Option Value → Mem → Prop) : Prop := WpM G 9 Y_L_drawer [.ref (ad G 0)] M Q
set_option maxRecDepth 20000 in
theorem v_L_drawer {G : Glob} {M : Mem} {Q : Option Value → Mem → Prop}  (h : (WpM G 3 Y_X10_text [.ref (ad G 0), .int 0, .int 31] M (RI (fun r2 M1 => ((r2 = 31 → (WpM G 5 Y_X10_put [.ref (ad G 0), .int 0, .int 0, .int 100] M1 (RI (fun r5 M4 => ((r5 = 1032 → (WpM G 5 Y_X10_put [.ref (ad G 0), .int 0, .int 1, .int 51] M4 (RI (fun r8 M7 => ((r8 = 1032 → (WpM G 5 Y_X10_put [.ref (ad G 0), .int 0, .int 2, .int 32] M7 (RI (fun r11 M10 => ((r11 = 1032 → (WpM G 5 Y_X10_put [.ref (ad G 0), .int 0, .int 3, .int 103] M10 (RI (fun r14 M13 => ((r14 = 1032 → (WpM G 5 Y_X10_put [.ref (ad G 0), .int 0, .int 4, .int 50] M13 (RI (fun r17 M16 => ((r17 = 1032 → (WpM G 5 Y_X10_put [.ref (ad G 0), .int 0, .int 5, .int 49] M16 (RI (fun r20 M19 => ((r20 = 1032 → (WpM G 5 Y_X10_put [.ref (ad G 0), .int 0, .int 6, .int 55] M19 (RI (fun r23 M22 => ((r23 = 1032 → (WpM G 5 Y_X10_put [.ref (ad G 0), .int 0, .int 7, .int 32] M22 (RI (fun r26 M25 => ((r26 = 1032 → (WpM G 5 Y_X10_put [.ref (ad G 0), .int 0, .int 8, .int 109] M25 (RI (fun r29 M28 => ((r29 = 1032 → (WpM G 5 Y_X10_put [.ref (ad G 0), .int 0, .int 9, .int 51] M28 (RI (fun r32 M31 => ((r32 = 1032 → (WpM G 5 Y_X10_put [.ref (ad G 0), .int 0, .int 10, .int 48] M31 (RI (fun r35 M34 => ((r35 = 1032 → (WpM G 5 Y_X10_put [.ref (ad G 0), .int 0, .int 11, .int 54] M34 (RI (fun r38 M37 => ((r38 = 1032 → (WpM G 5 Y_X10_put [.ref (ad G 0), .int 0, .int 12, .int 101] M37 (RI (fun r41 M40 => ((r41 = 1032 → (WpM G 5 Y_X10_put [.ref (ad G 0), .int 0, .int 13, .int 52] M40 (RI (fun r44 M43 => ((r44 = 1032 → (WpM G 5 Y_X10_put [.ref (ad G 0), .int 0, .int 14, .int 48] M43 (RI (fun r47 M46 => ((r47 = 1032 → (WpM G 5 Y_X10_put [.ref (ad G 0), .int 0, .int 15, .int 53] M46 (RI (fun r50 M49 => ((r50 = 1032 → (WpM G 5 Y_X10_put [.ref (ad G 0), .int 0, .int 16, .int 32] M49 (RI (fun r53 M52 => ((r53 = 1032 → (WpM G 5 Y_X10_put [.ref (ad G 0), .int 0, .int 17, .int 115] M52 (RI (fun r56 M55 => ((r56 = 1032 → (WpM G 5 Y_X10_put [.ref (ad G 0), .int 0, .int 18, .int 55] M55 (RI (fun r59 M58 => ((r59 = 1032 → (WpM G 5 Y_X10_put [.ref (ad G 0), .int 0, .int 19, .int 49] M58 (RI (fun r62 M61 => ((r62 = 1032 → (WpM G 5 Y_X10_put [.ref (ad G 0), .int 0, .int 20, .int 50] M61 (RI (fun r65 M64 => ((r65 = 1032 → (WpM G 5 Y_X10_put [.ref (ad G 0), .int 0, .int 21, .int 32] M64 (RI (fun r68 M67 => ((r68 = 1032 → (WpM G 5 Y_X10_put [.ref (ad G 0), .int 0, .int 22, .int 108] M67 (RI (fun r71 M70 => ((r71 = 1032 → (WpM G 5 Y_X10_put [.ref (ad G 0), .int 0, .int 23, .int 50] M70 (RI (fun r74 M73 => ((r74 = 1032 → (WpM G 5 Y_X10_put [.ref (ad G 0), .int 0, .int 24, .int 48] M73 (RI (fun r77 M76 => ((r77 = 1032 → (WpM G 5 Y_X10_put [.ref (ad G 0), .int 0, .int 25, .int 57] M76 (RI (fun r80 M79 => ((r80 = 1032 → (WpM G 5 Y_X10_put [.ref (ad G 0), .int 0, .int 26, .int 32] M79 (RI (fun r83 M82 => ((r83 = 1032 → (WpM G 5 Y_X10_put [.ref (ad G 0), .int 0, .int 27, .int 116] M82 (RI (fun r86 M85 => ((r86 = 1032 → (WpM G 5 Y_X10_put [.ref (ad G 0), .int 0, .int 28, .int 57] M85 (RI (fun r89 M88 => ((r89 = 1032 → (WpM G 5 Y_X10_put [.ref (ad G 0), .int 0, .int 29, .int 49] M88 (RI (fun r92 M91 => ((r92 = 1032 → (WpM G 5 Y_X10_put [.ref (ad G 0), .int 0, .int 30, .int 52] M91 (RI (fun r95 M94 => ((r95 = 1032 → (WpM G 8 Y_X10_drawer [.ref (ad G 0), .int 0] M94 (RI (fun r98 M97 => ((r98 = 6 → Q (some (.int 1)) M97) ∧ (¬ r98 = 6 → Q (some (.int 0)) M97)))))) ∧ (¬ r95 = 1032 → Q (some (.int 0)) M94)))))) ∧ (¬ r92 = 1032 → Q (some (.int 0)) M91)))))) ∧ (¬ r89 = 1032 → Q (some (.int 0)) M88)))))) ∧ (¬ r86 = 1032 → Q (some (.int 0)) M85)))))) ∧ (¬ r83 = 1032 → Q (some (.int 0)) M82)))))) ∧ (¬ r80 = 1032 → Q (some (.int 0)) M79)))))) ∧ (¬ r77 = 1032 → Q (some (.int 0)) M76)))))) ∧ (¬ r74 = 1032 → Q (some (.int 0)) M73)))))) ∧ (¬ r71 = 1032 → Q (some (.int 0)) M70)))))) ∧ (¬ r68 = 1032 → Q (some (.int 0)) M67)))))) ∧ (¬ r65 = 1032 → Q (some (.int 0)) M64)))))) ∧ (¬ r62 = 1032 → Q (some (.int 0)) M61)))))) ∧ (¬ r59 = 1032 → Q (some (.int 0)) M58)))))) ∧ (¬ r56 = 1032 → Q (some (.int 0)) M55)))))) ∧ (¬ r53 = 1032 → Q (some (.int 0)) M52)))))) ∧ (¬ r50 = 1032 → Q (some (.int 0)) M49)))))) ∧ (¬ r47 = 1032 → Q (some (.int 0)) M46)))))) ∧ (¬ r44 = 1032 → Q (some (.int 0)) M43)))))) ∧ (¬ r41 = 1032 → Q (some (.int 0)) M40)))))) ∧ (¬ r38 = 1032 → Q (some (.int 0)) M37)))))) ∧ (¬ r35 = 1032 → Q (some (.int 0)) M34)))))) ∧ (¬ r32 = 1032 → Q (some (.int 0)) M31)))))) ∧ (¬ r29 = 1032 → Q (some (.int 0)) M28)))))) ∧ (¬ r26 = 1032 → Q (some (.int 0)) M25)))))) ∧ (¬ r23 = 1032 → Q (some (.int 0)) M22)))))) ∧ (¬ r20 = 1032 → Q (some (.int 0)) M19)))))) ∧ (¬ r17 = 1032 → Q (some (.int 0)) M16)))))) ∧ (¬ r14 = 1032 → Q (some (.int 0)) M13)))))) ∧ (¬ r11 = 1032 → Q (some (.int 0)) M10)))))) ∧ (¬ r8 = 1032 → Q (some (.int 0)) M7)))))) ∧ (¬ r5 = 1032 → Q (some (.int 0)) M4)))))) ∧ (¬ r2 = 31 → Q (some (.int 0)) M1)))))) : C_L_drawer G  M Q := by
  refine wp_enter (ls0 := [some (.ref (ad G 0))]) (by decide +kernel) (Nat.le_of_ble_eq_true rfl) rfl ?_
  refine wp_aload_n dL_drawer_0 rfl rfl ?_
  refine wp_iconst (v := 0) dL_drawer_1 (by decide) ?_
  refine wp_bipush (v := 31) dL_drawer_2 (by decide) ?_
  refine wp_callVI (a := 0) (d1 := 3) (As := [.int 0, .int 31]) (st := []) dL_drawer_4 rfl cm_X10_text m_3_131 (by decide) rfl (Nat.le_of_ble_eq_true rfl) rfl h ?_
  intro r2 M1 h
  refine wp_bipush (v := 31) dL_drawer_7 (by decide) ?_
  refine wp_icmp_ne (tgt := 485) dL_drawer_9 (by decide) (fun c3 => ?_) (fun c3 => ?_)
  · replace h := h.2 c3
    refine wp_iconst (v := 0) dL_drawer_485 (by decide) ?_
    exact wp_iret (ty := .boolean) dL_drawer_486 rfl rfl h
  · replace h := h.1 c3
    refine wp_aload_n dL_drawer_12 rfl rfl ?_
    refine wp_iconst (v := 0) dL_drawer_13 (by decide) ?_
    refine wp_iconst (v := 0) dL_drawer_14 (by decide) ?_
    refine wp_bipush (v := 100) dL_drawer_15 (by decide) ?_
    refine wp_callVI (a := 0) (d1 := 5) (As := [.int 0, .int 0, .int 100]) (st := []) dL_drawer_17 rfl cm_X10_put m_3_135 (by decide) rfl (Nat.le_of_ble_eq_true rfl) rfl h ?_
    intro r5 M4 h
    refine wp_sipush (v := 1032) dL_drawer_20 (by decide) ?_
    refine wp_icmp_ne (tgt := 485) dL_drawer_23 (by decide) (fun c6 => ?_) (fun c6 => ?_)
    · replace h := h.2 c6
      refine wp_iconst (v := 0) dL_drawer_485 (by decide) ?_
      exact wp_iret (ty := .boolean) dL_drawer_486 rfl rfl h
    · replace h := h.1 c6
      refine wp_aload_n dL_drawer_26 rfl rfl ?_
      refine wp_iconst (v := 0) dL_drawer_27 (by decide) ?_
      refine wp_iconst (v := 1) dL_drawer_28 (by decide) ?_
      refine wp_bipush (v := 51) dL_drawer_29 (by decide) ?_
      refine wp_callVI (a := 0) (d1 := 5) (As := [.int 0, .int 1, .int 51]) (st := []) dL_drawer_31 rfl cm_X10_put m_3_135 (by decide) rfl (Nat.le_of_ble_eq_true rfl) rfl h ?_
      intro r8 M7 h
      refine wp_sipush (v := 1032) dL_drawer_34 (by decide) ?_
      refine wp_icmp_ne (tgt := 485) dL_drawer_37 (by decide) (fun c9 => ?_) (fun c9 => ?_)
      · replace h := h.2 c9
        refine wp_iconst (v := 0) dL_drawer_485 (by decide) ?_
        exact wp_iret (ty := .boolean) dL_drawer_486 rfl rfl h
      · replace h := h.1 c9
        refine wp_aload_n dL_drawer_40 rfl rfl ?_
        refine wp_iconst (v := 0) dL_drawer_41 (by decide) ?_
        refine wp_iconst (v := 2) dL_drawer_42 (by decide) ?_
        refine wp_bipush (v := 32) dL_drawer_43 (by decide) ?_
        refine wp_callVI (a := 0) (d1 := 5) (As := [.int 0, .int 2, .int 32]) (st := []) dL_drawer_45 rfl cm_X10_put m_3_135 (by decide) rfl (Nat.le_of_ble_eq_true rfl) rfl h ?_
        intro r11 M10 h
        refine wp_sipush (v := 1032) dL_drawer_48 (by decide) ?_
        refine wp_icmp_ne (tgt := 485) dL_drawer_51 (by decide) (fun c12 => ?_) (fun c12 => ?_)
        · replace h := h.2 c12
          refine wp_iconst (v := 0) dL_drawer_485 (by decide) ?_
          exact wp_iret (ty := .boolean) dL_drawer_486 rfl rfl h
        · replace h := h.1 c12
          refine wp_aload_n dL_drawer_54 rfl rfl ?_
          refine wp_iconst (v := 0) dL_drawer_55 (by decide) ?_
          refine wp_iconst (v := 3) dL_drawer_56 (by decide) ?_
          refine wp_bipush (v := 103) dL_drawer_57 (by decide) ?_
          refine wp_callVI (a := 0) (d1 := 5) (As := [.int 0, .int 3, .int 103]) (st := []) dL_drawer_59 rfl cm_X10_put m_3_135 (by decide) rfl (Nat.le_of_ble_eq_true rfl) rfl h ?_
          intro r14 M13 h
          refine wp_sipush (v := 1032) dL_drawer_62 (by decide) ?_
          refine wp_icmp_ne (tgt := 485) dL_drawer_65 (by decide) (fun c15 => ?_) (fun c15 => ?_)
          · replace h := h.2 c15
            refine wp_iconst (v := 0) dL_drawer_485 (by decide) ?_
            exact wp_iret (ty := .boolean) dL_drawer_486 rfl rfl h
          · replace h := h.1 c15
            refine wp_aload_n dL_drawer_68 rfl rfl ?_
            refine wp_iconst (v := 0) dL_drawer_69 (by decide) ?_
            refine wp_iconst (v := 4) dL_drawer_70 (by decide) ?_
            refine wp_bipush (v := 50) dL_drawer_71 (by decide) ?_
            refine wp_callVI (a := 0) (d1 := 5) (As := [.int 0, .int 4, .int 50]) (st := []) dL_drawer_73 rfl cm_X10_put m_3_135 (by decide) rfl (Nat.le_of_ble_eq_true rfl) rfl h ?_
            intro r17 M16 h
            refine wp_sipush (v := 1032) dL_drawer_76 (by decide) ?_
            refine wp_icmp_ne (tgt := 485) dL_drawer_79 (by decide) (fun c18 => ?_) (fun c18 => ?_)
            · replace h := h.2 c18
              refine wp_iconst (v := 0) dL_drawer_485 (by decide) ?_
              exact wp_iret (ty := .boolean) dL_drawer_486 rfl rfl h
            · replace h := h.1 c18
              refine wp_aload_n dL_drawer_82 rfl rfl ?_
              refine wp_iconst (v := 0) dL_drawer_83 (by decide) ?_
              refine wp_iconst (v := 5) dL_drawer_84 (by decide) ?_
              refine wp_bipush (v := 49) dL_drawer_85 (by decide) ?_
              refine wp_callVI (a := 0) (d1 := 5) (As := [.int 0, .int 5, .int 49]) (st := []) dL_drawer_87 rfl cm_X10_put m_3_135 (by decide) rfl (Nat.le_of_ble_eq_true rfl) rfl h ?_
              intro r20 M19 h
              refine wp_sipush (v := 1032) dL_drawer_90 (by decide) ?_
              refine wp_icmp_ne (tgt := 485) dL_drawer_93 (by decide) (fun c21 => ?_) (fun c21 => ?_)
              · replace h := h.2 c21
                refine wp_iconst (v := 0) dL_drawer_485 (by decide) ?_
                exact wp_iret (ty := .boolean) dL_drawer_486 rfl rfl h
              · replace h := h.1 c21
                refine wp_aload_n dL_drawer_96 rfl rfl ?_
                refine wp_iconst (v := 0) dL_drawer_97 (by decide) ?_
                refine wp_bipush (v := 6) dL_drawer_98 (by decide) ?_
                refine wp_bipush (v := 55) dL_drawer_100 (by decide) ?_
                refine wp_callVI (a := 0) (d1 := 5) (As := [.int 0, .int 6, .int 55]) (st := []) dL_drawer_102 rfl cm_X10_put m_3_135 (by decide) rfl (Nat.le_of_ble_eq_true rfl) rfl h ?_
                intro r23 M22 h
                refine wp_sipush (v := 1032) dL_drawer_105 (by decide) ?_
                refine wp_icmp_ne (tgt := 485) dL_drawer_108 (by decide) (fun c24 => ?_) (fun c24 => ?_)
                · replace h := h.2 c24
                  refine wp_iconst (v := 0) dL_drawer_485 (by decide) ?_
                  exact wp_iret (ty := .boolean) dL_drawer_486 rfl rfl h
                · replace h := h.1 c24
                  refine wp_aload_n dL_drawer_111 rfl rfl ?_
                  refine wp_iconst (v := 0) dL_drawer_112 (by decide) ?_
                  refine wp_bipush (v := 7) dL_drawer_113 (by decide) ?_
                  refine wp_bipush (v := 32) dL_drawer_115 (by decide) ?_
                  refine wp_callVI (a := 0) (d1 := 5) (As := [.int 0, .int 7, .int 32]) (st := []) dL_drawer_117 rfl cm_X10_put m_3_135 (by decide) rfl (Nat.le_of_ble_eq_true rfl) rfl h ?_
                  intro r26 M25 h
                  refine wp_sipush (v := 1032) dL_drawer_120 (by decide) ?_
                  refine wp_icmp_ne (tgt := 485) dL_drawer_123 (by decide) (fun c27 => ?_) (fun c27 => ?_)
                  · replace h := h.2 c27
                    refine wp_iconst (v := 0) dL_drawer_485 (by decide) ?_
                    exact wp_iret (ty := .boolean) dL_drawer_486 rfl rfl h
                  · replace h := h.1 c27
                    refine wp_aload_n dL_drawer_126 rfl rfl ?_
                    refine wp_iconst (v := 0) dL_drawer_127 (by decide) ?_
                    refine wp_bipush (v := 8) dL_drawer_128 (by decide) ?_
                    refine wp_bipush (v := 109) dL_drawer_130 (by decide) ?_
                    refine wp_callVI (a := 0) (d1 := 5) (As := [.int 0, .int 8, .int 109]) (st := []) dL_drawer_132 rfl cm_X10_put m_3_135 (by decide) rfl (Nat.le_of_ble_eq_true rfl) rfl h ?_
                    intro r29 M28 h
                    refine wp_sipush (v := 1032) dL_drawer_135 (by decide) ?_
                    refine wp_icmp_ne (tgt := 485) dL_drawer_138 (by decide) (fun c30 => ?_) (fun c30 => ?_)
                    · replace h := h.2 c30
                      refine wp_iconst (v := 0) dL_drawer_485 (by decide) ?_
                      exact wp_iret (ty := .boolean) dL_drawer_486 rfl rfl h
                    · replace h := h.1 c30
                      refine wp_aload_n dL_drawer_141 rfl rfl ?_
                      refine wp_iconst (v := 0) dL_drawer_142 (by decide) ?_
                      refine wp_bipush (v := 9) dL_drawer_143 (by decide) ?_
                      refine wp_bipush (v := 51) dL_drawer_145 (by decide) ?_
                      refine wp_callVI (a := 0) (d1 := 5) (As := [.int 0, .int 9, .int 51]) (st := []) dL_drawer_147 rfl cm_X10_put m_3_135 (by decide) rfl (Nat.le_of_ble_eq_true rfl) rfl h ?_
                      intro r32 M31 h
                      refine wp_sipush (v := 1032) dL_drawer_150 (by decide) ?_
                      refine wp_icmp_ne (tgt := 485) dL_drawer_153 (by decide) (fun c33 => ?_) (fun c33 => ?_)
                      · replace h := h.2 c33
                        refine wp_iconst (v := 0) dL_drawer_485 (by decide) ?_
                        exact wp_iret (ty := .boolean) dL_drawer_486 rfl rfl h
                      · replace h := h.1 c33
                        refine wp_aload_n dL_drawer_156 rfl rfl ?_
                        refine wp_iconst (v := 0) dL_drawer_157 (by decide) ?_
                        refine wp_bipush (v := 10) dL_drawer_158 (by decide) ?_
                        refine wp_bipush (v := 48) dL_drawer_160 (by decide) ?_
                        refine wp_callVI (a := 0) (d1 := 5) (As := [.int 0, .int 10, .int 48]) (st := []) dL_drawer_162 rfl cm_X10_put m_3_135 (by decide) rfl (Nat.le_of_ble_eq_true rfl) rfl h ?_
                        intro r35 M34 h
                        refine wp_sipush (v := 1032) dL_drawer_165 (by decide) ?_
                        refine wp_icmp_ne (tgt := 485) dL_drawer_168 (by decide) (fun c36 => ?_) (fun c36 => ?_)
                        · replace h := h.2 c36
                          refine wp_iconst (v := 0) dL_drawer_485 (by decide) ?_
                          exact wp_iret (ty := .boolean) dL_drawer_486 rfl rfl h
                        · replace h := h.1 c36
                          refine wp_aload_n dL_drawer_171 rfl rfl ?_
                          refine wp_iconst (v := 0) dL_drawer_172 (by decide) ?_
                          refine wp_bipush (v := 11) dL_drawer_173 (by decide) ?_
                          refine wp_bipush (v := 54) dL_drawer_175 (by decide) ?_
                          refine wp_callVI (a := 0) (d1 := 5) (As := [.int 0, .int 11, .int 54]) (st := []) dL_drawer_177 rfl cm_X10_put m_3_135 (by decide) rfl (Nat.le_of_ble_eq_true rfl) rfl h ?_
                          intro r38 M37 h
                          refine wp_sipush (v := 1032) dL_drawer_180 (by decide) ?_
                          refine wp_icmp_ne (tgt := 485) dL_drawer_183 (by decide) (fun c39 => ?_) (fun c39 => ?_)
                          · replace h := h.2 c39
                            refine wp_iconst (v := 0) dL_drawer_485 (by decide) ?_
                            exact wp_iret (ty := .boolean) dL_drawer_486 rfl rfl h
                          · replace h := h.1 c39
                            refine wp_aload_n dL_drawer_186 rfl rfl ?_
                            refine wp_iconst (v := 0) dL_drawer_187 (by decide) ?_
                            refine wp_bipush (v := 12) dL_drawer_188 (by decide) ?_
                            refine wp_bipush (v := 101) dL_drawer_190 (by decide) ?_
                            refine wp_callVI (a := 0) (d1 := 5) (As := [.int 0, .int 12, .int 101]) (st := []) dL_drawer_192 rfl cm_X10_put m_3_135 (by decide) rfl (Nat.le_of_ble_eq_true rfl) rfl h ?_
                            intro r41 M40 h
                            refine wp_sipush (v := 1032) dL_drawer_195 (by decide) ?_
                            refine wp_icmp_ne (tgt := 485) dL_drawer_198 (by decide) (fun c42 => ?_) (fun c42 => ?_)
                            · replace h := h.2 c42
                              refine wp_iconst (v := 0) dL_drawer_485 (by decide) ?_
                              exact wp_iret (ty := .boolean) dL_drawer_486 rfl rfl h
                            · replace h := h.1 c42
                              refine wp_aload_n dL_drawer_201 rfl rfl ?_
                              refine wp_iconst (v := 0) dL_drawer_202 (by decide) ?_
                              refine wp_bipush (v := 13) dL_drawer_203 (by decide) ?_
                              refine wp_bipush (v := 52) dL_drawer_205 (by decide) ?_
                              refine wp_callVI (a := 0) (d1 := 5) (As := [.int 0, .int 13, .int 52]) (st := []) dL_drawer_207 rfl cm_X10_put m_3_135 (by decide) rfl (Nat.le_of_ble_eq_true rfl) rfl h ?_
                              intro r44 M43 h
                              refine wp_sipush (v := 1032) dL_drawer_210 (by decide) ?_
                              refine wp_icmp_ne (tgt := 485) dL_drawer_213 (by decide) (fun c45 => ?_) (fun c45 => ?_)
                              · replace h := h.2 c45
                                refine wp_iconst (v := 0) dL_drawer_485 (by decide) ?_
                                exact wp_iret (ty := .boolean) dL_drawer_486 rfl rfl h
                              · replace h := h.1 c45
                                refine wp_aload_n dL_drawer_216 rfl rfl ?_
                                refine wp_iconst (v := 0) dL_drawer_217 (by decide) ?_
                                refine wp_bipush (v := 14) dL_drawer_218 (by decide) ?_
                                refine wp_bipush (v := 48) dL_drawer_220 (by decide) ?_
                                refine wp_callVI (a := 0) (d1 := 5) (As := [.int 0, .int 14, .int 48]) (st := []) dL_drawer_222 rfl cm_X10_put m_3_135 (by decide) rfl (Nat.le_of_ble_eq_true rfl) rfl h ?_
                                intro r47 M46 h
                                refine wp_sipush (v := 1032) dL_drawer_225 (by decide) ?_
                                refine wp_icmp_ne (tgt := 485) dL_drawer_228 (by decide) (fun c48 => ?_) (fun c48 => ?_)
                                · replace h := h.2 c48
                                  refine wp_iconst (v := 0) dL_drawer_485 (by decide) ?_
                                  exact wp_iret (ty := .boolean) dL_drawer_486 rfl rfl h
                                · replace h := h.1 c48
                                  refine wp_aload_n dL_drawer_231 rfl rfl ?_
                                  refine wp_iconst (v := 0) dL_drawer_232 (by decide) ?_
                                  refine wp_bipush (v := 15) dL_drawer_233 (by decide) ?_
                                  refine wp_bipush (v := 53) dL_drawer_235 (by decide) ?_
                                  refine wp_callVI (a := 0) (d1 := 5) (As := [.int 0, .int 15, .int 53]) (st := []) dL_drawer_237 rfl cm_X10_put m_3_135 (by decide) rfl (Nat.le_of_ble_eq_true rfl) rfl h ?_
                                  intro r50 M49 h
                                  refine wp_sipush (v := 1032) dL_drawer_240 (by decide) ?_
                                  refine wp_icmp_ne (tgt := 485) dL_drawer_243 (by decide) (fun c51 => ?_) (fun c51 => ?_)
                                  · replace h := h.2 c51
                                    refine wp_iconst (v := 0) dL_drawer_485 (by decide) ?_
                                    exact wp_iret (ty := .boolean) dL_drawer_486 rfl rfl h
                                  · replace h := h.1 c51
                                    refine wp_aload_n dL_drawer_246 rfl rfl ?_
                                    refine wp_iconst (v := 0) dL_drawer_247 (by decide) ?_
                                    refine wp_bipush (v := 16) dL_drawer_248 (by decide) ?_
                                    refine wp_bipush (v := 32) dL_drawer_250 (by decide) ?_
                                    refine wp_callVI (a := 0) (d1 := 5) (As := [.int 0, .int 16, .int 32]) (st := []) dL_drawer_252 rfl cm_X10_put m_3_135 (by decide) rfl (Nat.le_of_ble_eq_true rfl) rfl h ?_
                                    intro r53 M52 h
                                    refine wp_sipush (v := 1032) dL_drawer_255 (by decide) ?_
                                    refine wp_icmp_ne (tgt := 485) dL_drawer_258 (by decide) (fun c54 => ?_) (fun c54 => ?_)
                                    · replace h := h.2 c54
                                      refine wp_iconst (v := 0) dL_drawer_485 (by decide) ?_
                                      exact wp_iret (ty := .boolean) dL_drawer_486 rfl rfl h
                                    · replace h := h.1 c54
                                      refine wp_aload_n dL_drawer_261 rfl rfl ?_
                                      refine wp_iconst (v := 0) dL_drawer_262 (by decide) ?_
                                      refine wp_bipush (v := 17) dL_drawer_263 (by decide) ?_
                                      refine wp_bipush (v := 115) dL_drawer_265 (by decide) ?_
                                      refine wp_callVI (a := 0) (d1 := 5) (As := [.int 0, .int 17, .int 115]) (st := []) dL_drawer_267 rfl cm_X10_put m_3_135 (by decide) rfl (Nat.le_of_ble_eq_true rfl) rfl h ?_
                                      intro r56 M55 h
                                      refine wp_sipush (v := 1032) dL_drawer_270 (by decide) ?_
                                      refine wp_icmp_ne (tgt := 485) dL_drawer_273 (by decide) (fun c57 => ?_) (fun c57 => ?_)
                                      · replace h := h.2 c57
                                        refine wp_iconst (v := 0) dL_drawer_485 (by decide) ?_
                                        exact wp_iret (ty := .boolean) dL_drawer_486 rfl rfl h
                                      · replace h := h.1 c57
                                        refine wp_aload_n dL_drawer_276 rfl rfl ?_
                                        refine wp_iconst (v := 0) dL_drawer_277 (by decide) ?_
                                        refine wp_bipush (v := 18) dL_drawer_278 (by decide) ?_
                                        refine wp_bipush (v := 55) dL_drawer_280 (by decide) ?_
                                        refine wp_callVI (a := 0) (d1 := 5) (As := [.int 0, .int 18, .int 55]) (st := []) dL_drawer_282 rfl cm_X10_put m_3_135 (by decide) rfl (Nat.le_of_ble_eq_true rfl) rfl h ?_
                                        intro r59 M58 h
                                        refine wp_sipush (v := 1032) dL_drawer_285 (by decide) ?_
                                        refine wp_icmp_ne (tgt := 485) dL_drawer_288 (by decide) (fun c60 => ?_) (fun c60 => ?_)
                                        · replace h := h.2 c60
                                          refine wp_iconst (v := 0) dL_drawer_485 (by decide) ?_
                                          exact wp_iret (ty := .boolean) dL_drawer_486 rfl rfl h
                                        · replace h := h.1 c60
                                          refine wp_aload_n dL_drawer_291 rfl rfl ?_
                                          refine wp_iconst (v := 0) dL_drawer_292 (by decide) ?_
                                          refine wp_bipush (v := 19) dL_drawer_293 (by decide) ?_
                                          refine wp_bipush (v := 49) dL_drawer_295 (by decide) ?_
                                          refine wp_callVI (a := 0) (d1 := 5) (As := [.int 0, .int 19, .int 49]) (st := []) dL_drawer_297 rfl cm_X10_put m_3_135 (by decide) rfl (Nat.le_of_ble_eq_true rfl) rfl h ?_
                                          intro r62 M61 h
                                          refine wp_sipush (v := 1032) dL_drawer_300 (by decide) ?_
                                          refine wp_icmp_ne (tgt := 485) dL_drawer_303 (by decide) (fun c63 => ?_) (fun c63 => ?_)
                                          · replace h := h.2 c63
                                            refine wp_iconst (v := 0) dL_drawer_485 (by decide) ?_
                                            exact wp_iret (ty := .boolean) dL_drawer_486 rfl rfl h
                                          · replace h := h.1 c63
                                            refine wp_aload_n dL_drawer_306 rfl rfl ?_
                                            refine wp_iconst (v := 0) dL_drawer_307 (by decide) ?_
                                            refine wp_bipush (v := 20) dL_drawer_308 (by decide) ?_
                                            refine wp_bipush (v := 50) dL_drawer_310 (by decide) ?_
                                            refine wp_callVI (a := 0) (d1 := 5) (As := [.int 0, .int 20, .int 50]) (st := []) dL_drawer_312 rfl cm_X10_put m_3_135 (by decide) rfl (Nat.le_of_ble_eq_true rfl) rfl h ?_
                                            intro r65 M64 h
                                            refine wp_sipush (v := 1032) dL_drawer_315 (by decide) ?_
                                            refine wp_icmp_ne (tgt := 485) dL_drawer_318 (by decide) (fun c66 => ?_) (fun c66 => ?_)
                                            · replace h := h.2 c66
                                              refine wp_iconst (v := 0) dL_drawer_485 (by decide) ?_
                                              exact wp_iret (ty := .boolean) dL_drawer_486 rfl rfl h
                                            · replace h := h.1 c66
                                              refine wp_aload_n dL_drawer_321 rfl rfl ?_
                                              refine wp_iconst (v := 0) dL_drawer_322 (by decide) ?_
                                              refine wp_bipush (v := 21) dL_drawer_323 (by decide) ?_
                                              refine wp_bipush (v := 32) dL_drawer_325 (by decide) ?_
                                              refine wp_callVI (a := 0) (d1 := 5) (As := [.int 0, .int 21, .int 32]) (st := []) dL_drawer_327 rfl cm_X10_put m_3_135 (by decide) rfl (Nat.le_of_ble_eq_true rfl) rfl h ?_
                                              intro r68 M67 h
                                              refine wp_sipush (v := 1032) dL_drawer_330 (by decide) ?_
                                              refine wp_icmp_ne (tgt := 485) dL_drawer_333 (by decide) (fun c69 => ?_) (fun c69 => ?_)
                                              · replace h := h.2 c69
                                                refine wp_iconst (v := 0) dL_drawer_485 (by decide) ?_
                                                exact wp_iret (ty := .boolean) dL_drawer_486 rfl rfl h
                                              · replace h := h.1 c69
                                                refine wp_aload_n dL_drawer_336 rfl rfl ?_
                                                refine wp_iconst (v := 0) dL_drawer_337 (by decide) ?_
                                                refine wp_bipush (v := 22) dL_drawer_338 (by decide) ?_
                                                refine wp_bipush (v := 108) dL_drawer_340 (by decide) ?_
                                                refine wp_callVI (a := 0) (d1 := 5) (As := [.int 0, .int 22, .int 108]) (st := []) dL_drawer_342 rfl cm_X10_put m_3_135 (by decide) rfl (Nat.le_of_ble_eq_true rfl) rfl h ?_
                                                intro r71 M70 h
                                                refine wp_sipush (v := 1032) dL_drawer_345 (by decide) ?_
                                                refine wp_icmp_ne (tgt := 485) dL_drawer_348 (by decide) (fun c72 => ?_) (fun c72 => ?_)
                                                · replace h := h.2 c72
                                                  refine wp_iconst (v := 0) dL_drawer_485 (by decide) ?_
                                                  exact wp_iret (ty := .boolean) dL_drawer_486 rfl rfl h
                                                · replace h := h.1 c72
                                                  refine wp_aload_n dL_drawer_351 rfl rfl ?_
                                                  refine wp_iconst (v := 0) dL_drawer_352 (by decide) ?_
                                                  refine wp_bipush (v := 23) dL_drawer_353 (by decide) ?_
                                                  refine wp_bipush (v := 50) dL_drawer_355 (by decide) ?_
                                                  refine wp_callVI (a := 0) (d1 := 5) (As := [.int 0, .int 23, .int 50]) (st := []) dL_drawer_357 rfl cm_X10_put m_3_135 (by decide) rfl (Nat.le_of_ble_eq_true rfl) rfl h ?_
                                                  intro r74 M73 h
                                                  refine wp_sipush (v := 1032) dL_drawer_360 (by decide) ?_
                                                  refine wp_icmp_ne (tgt := 485) dL_drawer_363 (by decide) (fun c75 => ?_) (fun c75 => ?_)
                                                  · replace h := h.2 c75
                                                    refine wp_iconst (v := 0) dL_drawer_485 (by decide) ?_
                                                    exact wp_iret (ty := .boolean) dL_drawer_486 rfl rfl h
                                                  · replace h := h.1 c75
                                                    refine wp_aload_n dL_drawer_366 rfl rfl ?_
                                                    refine wp_iconst (v := 0) dL_drawer_367 (by decide) ?_
                                                    refine wp_bipush (v := 24) dL_drawer_368 (by decide) ?_
                                                    refine wp_bipush (v := 48) dL_drawer_370 (by decide) ?_
                                                    refine wp_callVI (a := 0) (d1 := 5) (As := [.int 0, .int 24, .int 48]) (st := []) dL_drawer_372 rfl cm_X10_put m_3_135 (by decide) rfl (Nat.le_of_ble_eq_true rfl) rfl h ?_
                                                    intro r77 M76 h
                                                    refine wp_sipush (v := 1032) dL_drawer_375 (by decide) ?_
                                                    refine wp_icmp_ne (tgt := 485) dL_drawer_378 (by decide) (fun c78 => ?_) (fun c78 => ?_)
                                                    · replace h := h.2 c78
                                                      refine wp_iconst (v := 0) dL_drawer_485 (by decide) ?_
                                                      exact wp_iret (ty := .boolean) dL_drawer_486 rfl rfl h
                                                    · replace h := h.1 c78
                                                      refine wp_aload_n dL_drawer_381 rfl rfl ?_
                                                      refine wp_iconst (v := 0) dL_drawer_382 (by decide) ?_
                                                      refine wp_bipush (v := 25) dL_drawer_383 (by decide) ?_
                                                      refine wp_bipush (v := 57) dL_drawer_385 (by decide) ?_
                                                      refine wp_callVI (a := 0) (d1 := 5) (As := [.int 0, .int 25, .int 57]) (st := []) dL_drawer_387 rfl cm_X10_put m_3_135 (by decide) rfl (Nat.le_of_ble_eq_true rfl) rfl h ?_
                                                      intro r80 M79 h
                                                      refine wp_sipush (v := 1032) dL_drawer_390 (by decide) ?_
                                                      refine wp_icmp_ne (tgt := 485) dL_drawer_393 (by decide) (fun c81 => ?_) (fun c81 => ?_)
                                                      · replace h := h.2 c81
                                                        refine wp_iconst (v := 0) dL_drawer_485 (by decide) ?_
                                                        exact wp_iret (ty := .boolean) dL_drawer_486 rfl rfl h
                                                      · replace h := h.1 c81
                                                        refine wp_aload_n dL_drawer_396 rfl rfl ?_
                                                        refine wp_iconst (v := 0) dL_drawer_397 (by decide) ?_
                                                        refine wp_bipush (v := 26) dL_drawer_398 (by decide) ?_
                                                        refine wp_bipush (v := 32) dL_drawer_400 (by decide) ?_
                                                        refine wp_callVI (a := 0) (d1 := 5) (As := [.int 0, .int 26, .int 32]) (st := []) dL_drawer_402 rfl cm_X10_put m_3_135 (by decide) rfl (Nat.le_of_ble_eq_true rfl) rfl h ?_
                                                        intro r83 M82 h
                                                        refine wp_sipush (v := 1032) dL_drawer_405 (by decide) ?_
                                                        refine wp_icmp_ne (tgt := 485) dL_drawer_408 (by decide) (fun c84 => ?_) (fun c84 => ?_)
                                                        · replace h := h.2 c84
                                                          refine wp_iconst (v := 0) dL_drawer_485 (by decide) ?_
                                                          exact wp_iret (ty := .boolean) dL_drawer_486 rfl rfl h
                                                        · replace h := h.1 c84
                                                          refine wp_aload_n dL_drawer_411 rfl rfl ?_
                                                          refine wp_iconst (v := 0) dL_drawer_412 (by decide) ?_
                                                          refine wp_bipush (v := 27) dL_drawer_413 (by decide) ?_
                                                          refine wp_bipush (v := 116) dL_drawer_415 (by decide) ?_
                                                          refine wp_callVI (a := 0) (d1 := 5) (As := [.int 0, .int 27, .int 116]) (st := []) dL_drawer_417 rfl cm_X10_put m_3_135 (by decide) rfl (Nat.le_of_ble_eq_true rfl) rfl h ?_
                                                          intro r86 M85 h
                                                          refine wp_sipush (v := 1032) dL_drawer_420 (by decide) ?_
                                                          refine wp_icmp_ne (tgt := 485) dL_drawer_423 (by decide) (fun c87 => ?_) (fun c87 => ?_)
                                                          · replace h := h.2 c87
                                                            refine wp_iconst (v := 0) dL_drawer_485 (by decide) ?_
                                                            exact wp_iret (ty := .boolean) dL_drawer_486 rfl rfl h
                                                          · replace h := h.1 c87
                                                            refine wp_aload_n dL_drawer_426 rfl rfl ?_
                                                            refine wp_iconst (v := 0) dL_drawer_427 (by decide) ?_
                                                            refine wp_bipush (v := 28) dL_drawer_428 (by decide) ?_
                                                            refine wp_bipush (v := 57) dL_drawer_430 (by decide) ?_
                                                            refine wp_callVI (a := 0) (d1 := 5) (As := [.int 0, .int 28, .int 57]) (st := []) dL_drawer_432 rfl cm_X10_put m_3_135 (by decide) rfl (Nat.le_of_ble_eq_true rfl) rfl h ?_
                                                            intro r89 M88 h
                                                            refine wp_sipush (v := 1032) dL_drawer_435 (by decide) ?_
                                                            refine wp_icmp_ne (tgt := 485) dL_drawer_438 (by decide) (fun c90 => ?_) (fun c90 => ?_)
                                                            · replace h := h.2 c90
                                                              refine wp_iconst (v := 0) dL_drawer_485 (by decide) ?_
                                                              exact wp_iret (ty := .boolean) dL_drawer_486 rfl rfl h
                                                            · replace h := h.1 c90
                                                              refine wp_aload_n dL_drawer_441 rfl rfl ?_
                                                              refine wp_iconst (v := 0) dL_drawer_442 (by decide) ?_
                                                              refine wp_bipush (v := 29) dL_drawer_443 (by decide) ?_
                                                              refine wp_bipush (v := 49) dL_drawer_445 (by decide) ?_
                                                              refine wp_callVI (a := 0) (d1 := 5) (As := [.int 0, .int 29, .int 49]) (st := []) dL_drawer_447 rfl cm_X10_put m_3_135 (by decide) rfl (Nat.le_of_ble_eq_true rfl) rfl h ?_
                                                              intro r92 M91 h
                                                              refine wp_sipush (v := 1032) dL_drawer_450 (by decide) ?_
                                                              refine wp_icmp_ne (tgt := 485) dL_drawer_453 (by decide) (fun c93 => ?_) (fun c93 => ?_)
                                                              · replace h := h.2 c93
                                                                refine wp_iconst (v := 0) dL_drawer_485 (by decide) ?_
                                                                exact wp_iret (ty := .boolean) dL_drawer_486 rfl rfl h
                                                              · replace h := h.1 c93
                                                                refine wp_aload_n dL_drawer_456 rfl rfl ?_
                                                                refine wp_iconst (v := 0) dL_drawer_457 (by decide) ?_
                                                                refine wp_bipush (v := 30) dL_drawer_458 (by decide) ?_
                                                                refine wp_bipush (v := 52) dL_drawer_460 (by decide) ?_
                                                                refine wp_callVI (a := 0) (d1 := 5) (As := [.int 0, .int 30, .int 52]) (st := []) dL_drawer_462 rfl cm_X10_put m_3_135 (by decide) rfl (Nat.le_of_ble_eq_true rfl) rfl h ?_
                                                                intro r95 M94 h
                                                                refine wp_sipush (v := 1032) dL_drawer_465 (by decide) ?_
                                                                refine wp_icmp_ne (tgt := 485) dL_drawer_468 (by decide) (fun c96 => ?_) (fun c96 => ?_)
                                                                · replace h := h.2 c96
                                                                  refine wp_iconst (v := 0) dL_drawer_485 (by decide) ?_
                                                                  exact wp_iret (ty := .boolean) dL_drawer_486 rfl rfl h
                                                                · replace h := h.1 c96
                                                                  refine wp_aload_n dL_drawer_471 rfl rfl ?_
                                                                  refine wp_iconst (v := 0) dL_drawer_472 (by decide) ?_
                                                                  refine wp_callVI (a := 0) (d1 := 8) (As := [.int 0]) (st := []) dL_drawer_473 rfl cm_X10_drawer m_3_167 (by decide) rfl (Nat.le_of_ble_eq_true rfl) rfl h ?_
                                                                  intro r98 M97 h
                                                                  refine wp_bipush (v := 6) dL_drawer_476 (by decide) ?_
                                                                  refine wp_icmp_ne (tgt := 485) dL_drawer_478 (by decide) (fun c99 => ?_) (fun c99 => ?_)
                                                                  · replace h := h.2 c99
                                                                    refine wp_iconst (v := 0) dL_drawer_485 (by decide) ?_
                                                                    exact wp_iret (ty := .boolean) dL_drawer_486 rfl rfl h
                                                                  · replace h := h.1 c99
                                                                    refine wp_iconst (v := 1) dL_drawer_481 (by decide) ?_
                                                                    refine wp_goto (tgt := 486) dL_drawer_482 (by decide) ?_
                                                                    exact wp_iret (ty := .boolean) dL_drawer_486 rfl rfl h
abbrev C_L_turn (G : Glob) (x1 : Int32) (M : Mem) (Q : Option Value → Mem → Prop) : Prop := WpM G 13 Y_L_turn [.ref (ad G 0), .int x1] M Q
set_option maxRecDepth 20000 in
theorem v_L_turn {G : Glob} {x1 : Int32} {M : Mem} {Q : Option Value → Mem → Prop}  (h : (((x1 &&& 15) = 0 → (WpM G 1 Y_L_low [.int (x1 >>> (4 &&& 31)), .int 6] M (RI (fun r2 M1 => (WpM G 1 Y_L_low [.int ((x1 >>> (4 &&& 31)) >>> (3 &&& 31)), .int 6] M1 (RI (fun r4 M3 => (WpM G 5 Y_X10_wear [.ref (ad G 0), .int r2, .int r4] M3 (RI (fun r6 M5 => Q (some (.int r6)) M5)))))))))) ∧ (¬ (x1 &&& 15) = 0 → (((x1 &&& 15) = 1 → (WpM G 1 Y_L_low [.int (x1 >>> (4 &&& 31)), .int 6] M (RI (fun r8 M7 => (WpM G 1 Y_L_low [.int ((x1 >>> (4 &&& 31)) >>> (3 &&& 31)), .int 6] M7 (RI (fun r10 M9 => (WpM G 5 Y_X10_wear [.ref (ad G 0), .int r8, .int r10] M9 (RI (fun r12 M11 => Q (some (.int r12)) M11)))))))))) ∧ (¬ (x1 &&& 15) = 1 → (((x1 &&& 15) = 2 → (WpM G 1 Y_L_low [.int (x1 >>> (4 &&& 31)), .int 6] M (RI (fun r14 M13 => (WpM G 4 Y_X10_lose [.ref (ad G 0), .int r14] M13 (RI (fun r16 M15 => Q (some (.int r16)) M15))))))) ∧ (¬ (x1 &&& 15) = 2 → (((x1 &&& 15) = 3 → (WpM G 1 Y_L_low [.int (x1 >>> (4 &&& 31)), .int 6] M (RI (fun r18 M17 => (WpM G 4 Y_X10_back [.ref (ad G 0), .int r18] M17 (RI (fun r20 M19 => Q (some (.int r20)) M19))))))) ∧ (¬ (x1 &&& 15) = 3 → (((x1 &&& 15) = 4 → ((((x1 >>> (4 &&& 31)) &&& 3) = 0 → (WpM G 1 Y_L_low [.int ((x1 >>> (4 &&& 31)) >>> (2 &&& 31)), .int 6] M (RI (fun r27 M26 => (WpM G 4 Y_X10_out [.ref (ad G 0), .int r27] M26 (RI (fun r29 M28 => Q (some (.int r29)) M28))))))) ∧ (¬ ((x1 >>> (4 &&& 31)) &&& 3) = 0 → (WpM G 1 Y_L_low [.int ((x1 >>> (4 &&& 31)) >>> (2 &&& 31)), .int 6] M (RI (fun r23 M22 => (WpM G 4 Y_X10_back [.ref (ad G 0), .int r23] M22 (RI (fun r25 M24 => Q (some (.int r25)) M24))))))))) ∧ (¬ (x1 &&& 15) = 4 → (((x1 &&& 15) = 5 → (WpM G 5 Y_X10_count [.ref (ad G 0), .int 2] M (RI (fun r31 M30 => (WpM G 1 Y_L_low [.int (x1 >>> (4 &&& 31)), .int 4] M30 (RI (fun r33 M32 => (WpM G 4 Y_X10_undo [.ref (ad G 0), .int (r31 - r33)] M32 (RI (fun r35 M34 => Q (some (.int r35)) M34)))))))))) ∧ (¬ (x1 &&& 15) = 5 → (((x1 &&& 15) = 6 → ((((x1 >>> (4 &&& 31)) &&& 1) = 0 → (WpM G 2 Y_X10_keep [.ref (ad G 0), .int (((x1 >>> (4 &&& 31)) >>> (1 &&& 31)) &&& 1)] M (RI (fun r40 M39 => Q (some (.int r40)) M39)))) ∧ (¬ ((x1 >>> (4 &&& 31)) &&& 1) = 0 → (WpM G 4 Y_X10_on [.ref (ad G 0), .int (((x1 >>> (4 &&& 31)) >>> (1 &&& 31)) &&& 1)] M (RI (fun r38 M37 => Q (some (.int r38)) M37)))))) ∧ (¬ (x1 &&& 15) = 6 → (((x1 &&& 15) = 7 → ((((x1 >>> (4 &&& 31)) &&& 7) = 0 → (WpM G 9 Y_L_drawer [.ref (ad G 0)] M (RI (fun r47 M46 => ((r47 = 0 → Q (some (.int 0)) M46) ∧ (¬ r47 = 0 → Q (some (.int 1)) M46)))))) ∧ (¬ ((x1 >>> (4 &&& 31)) &&& 7) = 0 → (WpM G 1 Y_L_low [.int ((x1 >>> (4 &&& 31)) >>> (4 &&& 31)), .int 5] M (RI (fun r43 M42 => (WpM G 3 Y_X10_row [.ref (ad G 0), .int (((x1 >>> (4 &&& 31)) >>> (3 &&& 31)) &&& 1), .int r43] M42 (RI (fun r45 M44 => Q (some (.int r45)) M44))))))))) ∧ (¬ (x1 &&& 15) = 7 → (((x1 &&& 15) = 8 → (WpM G 1 Y_L_low [.int ((x1 >>> (4 &&& 31)) >>> (3 &&& 31)), .int 24] M (RI (fun r50 M49 => (WpM G 6 Y_X10_lay [.ref (ad G 0), .int ((x1 >>> (4 &&& 31)) &&& 1), .int (((x1 >>> (4 &&& 31)) >>> (1 &&& 31)) &&& 3), .int r50] M49 (RI (fun r52 M51 => Q (some (.int r52)) M51))))))) ∧ (¬ (x1 &&& 15) = 8 → (((x1 &&& 15) = 9 → (WpM G 1 Y_L_low [.int (x1 >>> (4 &&& 31)), .int 6] M (RI (fun r54 M53 => (WpM G 1 Y_L_low [.int ((x1 >>> (4 &&& 31)) >>> (3 &&& 31)), .int 5] M53 (RI (fun r56 M55 => (WpM G 6 Y_X10_mark [.ref (ad G 0), .int r54, .int ((1 : Int32) + r56)] M55 (RI (fun r58 M57 => Q (some (.int r58)) M57)))))))))) ∧ (¬ (x1 &&& 15) = 9 → (((x1 &&& 15) = 10 → ((((x1 >>> (4 &&& 31)) &&& 1) = 0 → (WpM G 1 Y_L_low [.int ((x1 >>> (4 &&& 31)) >>> (1 &&& 31)), .int 64] M (RI (fun r63 M62 => (WpM G 6 Y_X10_good [.ref (ad G 0), .int r63] M62 (RI (fun r65 M64 => Q (some (.int r65)) M64))))))) ∧ (¬ ((x1 >>> (4 &&& 31)) &&& 1) = 0 → (WpM G 6 Y_X10_pairs [.ref (ad G 0), .int (((x1 >>> (4 &&& 31)) >>> (1 &&& 31)) &&& 1)] M (RI (fun r61 M60 => Q (some (.int r61)) M60)))))) ∧ (¬ (x1 &&& 15) = 10 → (((x1 &&& 15) = 11 → ((((x1 >>> (4 &&& 31)) &&& 1) = 0 → (WpM G 6 Y_X10_missed [.ref (ad G 0)] M (RI (fun r70 M69 => Q (some (.int r70)) M69)))) ∧ (¬ ((x1 >>> (4 &&& 31)) &&& 1) = 0 → (WpM G 6 Y_X10_wished [.ref (ad G 0)] M (RI (fun r68 M67 => Q (some (.int r68)) M67)))))) ∧ (¬ (x1 &&& 15) = 11 → (((x1 &&& 15) = 12 → ((((x1 >>> (4 &&& 31)) &&& 1) = 0 → (WpM G 1 Y_L_low [.int ((x1 >>> (4 &&& 31)) >>> (1 &&& 31)), .int 3] M (RI (fun r75 M74 => (WpM G 12 Y_X10_days [.ref (ad G 0), .int r75, .int (((x1 >>> (4 &&& 31)) >>> (3 &&& 31)) &&& 1)] M74 (RI (fun r77 M76 => Q (some (.int r77)) M76))))))) ∧ (¬ ((x1 >>> (4 &&& 31)) &&& 1) = 0 → (WpM G 6 Y_X10_room [.ref (ad G 0)] M (RI (fun r73 M72 => Q (some (.int r73)) M72)))))) ∧ (¬ (x1 &&& 15) = 12 → (((x1 &&& 15) = 13 → ((((x1 >>> (4 &&& 31)) &&& 1) = 0 → (WpM G 1 Y_L_low [.int ((x1 >>> (4 &&& 31)) >>> (1 &&& 31)), .int 6] M (RI (fun r84 M83 => (WpM G 7 Y_X10_kinds [.ref (ad G 0), .int r84, .int (((x1 >>> (4 &&& 31)) >>> (4 &&& 31)) &&& 1)] M83 (RI (fun r86 M85 => Q (some (.int r86)) M85))))))) ∧ (¬ ((x1 >>> (4 &&& 31)) &&& 1) = 0 → (WpM G 1 Y_L_low [.int ((x1 >>> (4 &&& 31)) >>> (1 &&& 31)), .int 6] M (RI (fun r80 M79 => (WpM G 7 Y_X10_test [.ref (ad G 0), .int r80, .int (((x1 >>> (4 &&& 31)) >>> (4 &&& 31)) &&& 1)] M79 (RI (fun r82 M81 => Q (some (.int r82)) M81))))))))) ∧ (¬ (x1 &&& 15) = 13 → (((x1 &&& 15) = 14 → ((((x1 >>> (4 &&& 31)) &&& 1) = 0 → (WpM G 1 Y_L_low [.int ((x1 >>> (4 &&& 31)) >>> (1 &&& 31)), .int 5] M (RI (fun r95 M94 => (WpM G 1 Y_L_low [.int ((x1 >>> (4 &&& 31)) >>> (4 &&& 31)), .int 13] M94 (RI (fun r97 M96 => (WpM G 1 Y_L_low [.int ((x1 >>> (4 &&& 31)) >>> (8 &&& 31)), .int 13] M96 (RI (fun r99 M98 => (WpM G 6 Y_X10_odds [.ref (ad G 0), .int r95, .int r97, .int r99] M98 (RI (fun r101 M100 => Q (some (.int r101)) M100))))))))))))) ∧ (¬ ((x1 >>> (4 &&& 31)) &&& 1) = 0 → (WpM G 1 Y_L_low [.int ((x1 >>> (4 &&& 31)) >>> (1 &&& 31)), .int 13] M (RI (fun r89 M88 => (WpM G 1 Y_L_low [.int ((x1 >>> (4 &&& 31)) >>> (5 &&& 31)), .int 13] M88 (RI (fun r91 M90 => (WpM G 6 Y_X10_mid [.ref (ad G 0), .int r89, .int r91] M90 (RI (fun r93 M92 => Q (some (.int r93)) M92)))))))))))) ∧ (¬ (x1 &&& 15) = 14 → ((((x1 >>> (4 &&& 31)) &&& 1) = 0 → (WpM G 1 Y_L_low [.int ((x1 >>> (4 &&& 31)) >>> (1 &&& 31)), .int 3] M (RI (fun r108 M107 => (WpM G 6 Y_X10_lots [.ref (ad G 0), .int ((1 : Int32) + r108), .int ((1 : Int32) + ((x1 >>> (4 &&& 31)) >>> (3 &&& 31)))] M107 (RI (fun r110 M109 => Q (some (.int r110)) M109))))))) ∧ (¬ ((x1 >>> (4 &&& 31)) &&& 1) = 0 → (WpM G 1 Y_L_low [.int ((x1 >>> (4 &&& 31)) >>> (1 &&& 31)), .int 4] M (RI (fun r104 M103 => (WpM G 10 Y_X10_duel [.ref (ad G 0), .int r104] M103 (RI (fun r106 M105 => Q (some (.int r106)) M105))))))))))))))))))))))))))))))))))))))) : C_L_turn G x1 M Q := by
  refine wp_enter (ls0 := [some (.ref (ad G 0)), some (.int x1), none]) (by decide +kernel) (Nat.le_of_ble_eq_true rfl) rfl ?_
  refine wp_iload_n dL_turn_0 rfl rfl ?_
  refine wp_iconst (v := 4) dL_turn_1 (by decide) ?_
  refine wp_ishr dL_turn_2 ?_
  refine wp_istore_n (ls' := [some (.ref (ad G 0)), some (.int x1), some (.int (x1 >>> (4 &&& 31)))]) dL_turn_3 rfl (by decide) rfl rfl ?_
  refine wp_iload_n dL_turn_4 rfl rfl ?_
  refine wp_bipush (v := 15) dL_turn_5 (by decide) ?_
  refine wp_iand dL_turn_7 ?_
  rcases Decidable.em ((x1 &&& 15) = 0) with n0 | n0
  · replace h := h.1 n0
    refine wp_tswI (tgt := 84) (v := 0) dL_turn_8 n0 (by decide) (by decide) rfl (by decide) ?_
    refine wp_aload_n dL_turn_84 rfl rfl ?_
    refine wp_iload_n dL_turn_85 rfl rfl ?_
    refine wp_bipush (v := 6) dL_turn_86 (by decide) ?_
    refine wp_callSI (d1 := 1) (As := [.int (x1 >>> (4 &&& 31)), .int 6]) (st := [.ref (ad G 0)]) dL_turn_88 cm_L_low m_3_55 (by decide) rfl (Nat.le_of_ble_eq_true rfl) rfl h ?_
    intro r2 M1 h
    refine wp_iload_n dL_turn_91 rfl rfl ?_
    refine wp_iconst (v := 3) dL_turn_92 (by decide) ?_
    refine wp_ishr dL_turn_93 ?_
    refine wp_bipush (v := 6) dL_turn_94 (by decide) ?_
    refine wp_callSI (d1 := 1) (As := [.int ((x1 >>> (4 &&& 31)) >>> (3 &&& 31)), .int 6]) (st := [.int r2, .ref (ad G 0)]) dL_turn_96 cm_L_low m_3_55 (by decide) rfl (Nat.le_of_ble_eq_true rfl) rfl h ?_
    intro r4 M3 h
    refine wp_callVI (a := 0) (d1 := 5) (As := [.int r2, .int r4]) (st := []) dL_turn_99 rfl cm_X10_wear m_2_70 (by decide) rfl (Nat.le_of_ble_eq_true rfl) rfl h ?_
    intro r6 M5 h
    exact wp_iret (ty := .int) dL_turn_102 rfl rfl h
  · replace h := h.2 n0
    rcases Decidable.em ((x1 &&& 15) = 1) with n1 | n1
    · replace h := h.1 n1
      refine wp_tswI (tgt := 84) (v := 1) dL_turn_8 n1 (by decide) (by decide) rfl (by decide) ?_
      refine wp_aload_n dL_turn_84 rfl rfl ?_
      refine wp_iload_n dL_turn_85 rfl rfl ?_
      refine wp_bipush (v := 6) dL_turn_86 (by decide) ?_
      refine wp_callSI (d1 := 1) (As := [.int (x1 >>> (4 &&& 31)), .int 6]) (st := [.ref (ad G 0)]) dL_turn_88 cm_L_low m_3_55 (by decide) rfl (Nat.le_of_ble_eq_true rfl) rfl h ?_
      intro r8 M7 h
      refine wp_iload_n dL_turn_91 rfl rfl ?_
      refine wp_iconst (v := 3) dL_turn_92 (by decide) ?_
      refine wp_ishr dL_turn_93 ?_
      refine wp_bipush (v := 6) dL_turn_94 (by decide) ?_
      refine wp_callSI (d1 := 1) (As := [.int ((x1 >>> (4 &&& 31)) >>> (3 &&& 31)), .int 6]) (st := [.int r8, .ref (ad G 0)]) dL_turn_96 cm_L_low m_3_55 (by decide) rfl (Nat.le_of_ble_eq_true rfl) rfl h ?_
      intro r10 M9 h
      refine wp_callVI (a := 0) (d1 := 5) (As := [.int r8, .int r10]) (st := []) dL_turn_99 rfl cm_X10_wear m_2_70 (by decide) rfl (Nat.le_of_ble_eq_true rfl) rfl h ?_
      intro r12 M11 h
      exact wp_iret (ty := .int) dL_turn_102 rfl rfl h
    · replace h := h.2 n1
      rcases Decidable.em ((x1 &&& 15) = 2) with n2 | n2
      · replace h := h.1 n2
        refine wp_tswI (tgt := 103) (v := 2) dL_turn_8 n2 (by decide) (by decide) rfl (by decide) ?_
        refine wp_aload_n dL_turn_103 rfl rfl ?_
        refine wp_iload_n dL_turn_104 rfl rfl ?_
        refine wp_bipush (v := 6) dL_turn_105 (by decide) ?_
        refine wp_callSI (d1 := 1) (As := [.int (x1 >>> (4 &&& 31)), .int 6]) (st := [.ref (ad G 0)]) dL_turn_107 cm_L_low m_3_55 (by decide) rfl (Nat.le_of_ble_eq_true rfl) rfl h ?_
        intro r14 M13 h
        refine wp_callVI (a := 0) (d1 := 4) (As := [.int r14]) (st := []) dL_turn_110 rfl cm_X10_lose m_2_127 (by decide) rfl (Nat.le_of_ble_eq_true rfl) rfl h ?_
        intro r16 M15 h
        exact wp_iret (ty := .int) dL_turn_113 rfl rfl h
      · replace h := h.2 n2
        rcases Decidable.em ((x1 &&& 15) = 3) with n3 | n3
        · replace h := h.1 n3
          refine wp_tswI (tgt := 114) (v := 3) dL_turn_8 n3 (by decide) (by decide) rfl (by decide) ?_
          refine wp_aload_n dL_turn_114 rfl rfl ?_
          refine wp_iload_n dL_turn_115 rfl rfl ?_
          refine wp_bipush (v := 6) dL_turn_116 (by decide) ?_
          refine wp_callSI (d1 := 1) (As := [.int (x1 >>> (4 &&& 31)), .int 6]) (st := [.ref (ad G 0)]) dL_turn_118 cm_L_low m_3_55 (by decide) rfl (Nat.le_of_ble_eq_true rfl) rfl h ?_
          intro r18 M17 h
          refine wp_callVI (a := 0) (d1 := 4) (As := [.int r18]) (st := []) dL_turn_121 rfl cm_X10_back m_3_210 (by decide) rfl (Nat.le_of_ble_eq_true rfl) rfl h ?_
          intro r20 M19 h
          exact wp_iret (ty := .int) dL_turn_124 rfl rfl h
        · replace h := h.2 n3
          rcases Decidable.em ((x1 &&& 15) = 4) with n4 | n4
          · replace h := h.1 n4
            refine wp_tswI (tgt := 125) (v := 4) dL_turn_8 n4 (by decide) (by decide) rfl (by decide) ?_
            refine wp_iload_n dL_turn_125 rfl rfl ?_
            refine wp_iconst (v := 3) dL_turn_126 (by decide) ?_
            refine wp_iand dL_turn_127 ?_
            refine wp_if_ne (tgt := 146) dL_turn_128 (by decide) (fun c21 => ?_) (fun c21 => ?_)
            · replace h := h.2 c21
              refine wp_aload_n dL_turn_146 rfl rfl ?_
              refine wp_iload_n dL_turn_147 rfl rfl ?_
              refine wp_iconst (v := 2) dL_turn_148 (by decide) ?_
              refine wp_ishr dL_turn_149 ?_
              refine wp_bipush (v := 6) dL_turn_150 (by decide) ?_
              refine wp_callSI (d1 := 1) (As := [.int ((x1 >>> (4 &&& 31)) >>> (2 &&& 31)), .int 6]) (st := [.ref (ad G 0)]) dL_turn_152 cm_L_low m_3_55 (by decide) rfl (Nat.le_of_ble_eq_true rfl) rfl h ?_
              intro r23 M22 h
              refine wp_callVI (a := 0) (d1 := 4) (As := [.int r23]) (st := []) dL_turn_155 rfl cm_X10_back m_3_210 (by decide) rfl (Nat.le_of_ble_eq_true rfl) rfl h ?_
              intro r25 M24 h
              exact wp_iret (ty := .int) dL_turn_158 rfl rfl h
            · replace h := h.1 c21
              refine wp_aload_n dL_turn_131 rfl rfl ?_
              refine wp_iload_n dL_turn_132 rfl rfl ?_
              refine wp_iconst (v := 2) dL_turn_133 (by decide) ?_
              refine wp_ishr dL_turn_134 ?_
              refine wp_bipush (v := 6) dL_turn_135 (by decide) ?_
              refine wp_callSI (d1 := 1) (As := [.int ((x1 >>> (4 &&& 31)) >>> (2 &&& 31)), .int 6]) (st := [.ref (ad G 0)]) dL_turn_137 cm_L_low m_3_55 (by decide) rfl (Nat.le_of_ble_eq_true rfl) rfl h ?_
              intro r27 M26 h
              refine wp_callVI (a := 0) (d1 := 4) (As := [.int r27]) (st := []) dL_turn_140 rfl cm_X10_out m_2_150 (by decide) rfl (Nat.le_of_ble_eq_true rfl) rfl h ?_
              intro r29 M28 h
              refine wp_goto (tgt := 158) dL_turn_143 (by decide) ?_
              exact wp_iret (ty := .int) dL_turn_158 rfl rfl h
          · replace h := h.2 n4
            rcases Decidable.em ((x1 &&& 15) = 5) with n5 | n5
            · replace h := h.1 n5
              refine wp_tswI (tgt := 159) (v := 5) dL_turn_8 n5 (by decide) (by decide) rfl (by decide) ?_
              refine wp_aload_n dL_turn_159 rfl rfl ?_
              refine wp_aload_n dL_turn_160 rfl rfl ?_
              refine wp_iconst (v := 2) dL_turn_161 (by decide) ?_
              refine wp_callVI (a := 0) (d1 := 5) (As := [.int 2]) (st := [.ref (ad G 0)]) dL_turn_162 rfl cm_X10_count m_2_233 (by decide) rfl (Nat.le_of_ble_eq_true rfl) rfl h ?_
              intro r31 M30 h
              refine wp_iload_n dL_turn_165 rfl rfl ?_
              refine wp_iconst (v := 4) dL_turn_166 (by decide) ?_
              refine wp_callSI (d1 := 1) (As := [.int (x1 >>> (4 &&& 31)), .int 4]) (st := [.int r31, .ref (ad G 0)]) dL_turn_167 cm_L_low m_3_55 (by decide) rfl (Nat.le_of_ble_eq_true rfl) rfl h ?_
              intro r33 M32 h
              refine wp_isub dL_turn_170 ?_
              refine wp_callVI (a := 0) (d1 := 4) (As := [.int (r31 - r33)]) (st := []) dL_turn_171 rfl cm_X10_undo m_2_154 (by decide) rfl (Nat.le_of_ble_eq_true rfl) rfl h ?_
              intro r35 M34 h
              exact wp_iret (ty := .int) dL_turn_174 rfl rfl h
            · replace h := h.2 n5
              rcases Decidable.em ((x1 &&& 15) = 6) with n6 | n6
              · replace h := h.1 n6
                refine wp_tswI (tgt := 175) (v := 6) dL_turn_8 n6 (by decide) (by decide) rfl (by decide) ?_
                refine wp_iload_n dL_turn_175 rfl rfl ?_
                refine wp_iconst (v := 1) dL_turn_176 (by decide) ?_
                refine wp_iand dL_turn_177 ?_
                refine wp_if_ne (tgt := 193) dL_turn_178 (by decide) (fun c36 => ?_) (fun c36 => ?_)
                · replace h := h.2 c36
                  refine wp_aload_n dL_turn_193 rfl rfl ?_
                  refine wp_iload_n dL_turn_194 rfl rfl ?_
                  refine wp_iconst (v := 1) dL_turn_195 (by decide) ?_
                  refine wp_ishr dL_turn_196 ?_
                  refine wp_iconst (v := 1) dL_turn_197 (by decide) ?_
                  refine wp_iand dL_turn_198 ?_
                  refine wp_callVI (a := 0) (d1 := 4) (As := [.int (((x1 >>> (4 &&& 31)) >>> (1 &&& 31)) &&& 1)]) (st := []) dL_turn_199 rfl cm_X10_on m_2_170 (by decide) rfl (Nat.le_of_ble_eq_true rfl) rfl h ?_
                  intro r38 M37 h
                  exact wp_iret (ty := .int) dL_turn_202 rfl rfl h
                · replace h := h.1 c36
                  refine wp_aload_n dL_turn_181 rfl rfl ?_
                  refine wp_iload_n dL_turn_182 rfl rfl ?_
                  refine wp_iconst (v := 1) dL_turn_183 (by decide) ?_
                  refine wp_ishr dL_turn_184 ?_
                  refine wp_iconst (v := 1) dL_turn_185 (by decide) ?_
                  refine wp_iand dL_turn_186 ?_
                  refine wp_callVI (a := 0) (d1 := 2) (As := [.int (((x1 >>> (4 &&& 31)) >>> (1 &&& 31)) &&& 1)]) (st := []) dL_turn_187 rfl cm_X10_keep m_2_162 (by decide) rfl (Nat.le_of_ble_eq_true rfl) rfl h ?_
                  intro r40 M39 h
                  refine wp_goto (tgt := 202) dL_turn_190 (by decide) ?_
                  exact wp_iret (ty := .int) dL_turn_202 rfl rfl h
              · replace h := h.2 n6
                rcases Decidable.em ((x1 &&& 15) = 7) with n7 | n7
                · replace h := h.1 n7
                  refine wp_tswI (tgt := 203) (v := 7) dL_turn_8 n7 (by decide) (by decide) rfl (by decide) ?_
                  refine wp_iload_n dL_turn_203 rfl rfl ?_
                  refine wp_bipush (v := 7) dL_turn_204 (by decide) ?_
                  refine wp_iand dL_turn_206 ?_
                  refine wp_if_ne (tgt := 225) dL_turn_207 (by decide) (fun c41 => ?_) (fun c41 => ?_)
                  · replace h := h.2 c41
                    refine wp_aload_n dL_turn_225 rfl rfl ?_
                    refine wp_iload_n dL_turn_226 rfl rfl ?_
                    refine wp_iconst (v := 3) dL_turn_227 (by decide) ?_
                    refine wp_ishr dL_turn_228 ?_
                    refine wp_iconst (v := 1) dL_turn_229 (by decide) ?_
                    refine wp_iand dL_turn_230 ?_
                    refine wp_iload_n dL_turn_231 rfl rfl ?_
                    refine wp_iconst (v := 4) dL_turn_232 (by decide) ?_
                    refine wp_ishr dL_turn_233 ?_
                    refine wp_iconst (v := 5) dL_turn_234 (by decide) ?_
                    refine wp_callSI (d1 := 1) (As := [.int ((x1 >>> (4 &&& 31)) >>> (4 &&& 31)), .int 5]) (st := [.int (((x1 >>> (4 &&& 31)) >>> (3 &&& 31)) &&& 1), .ref (ad G 0)]) dL_turn_235 cm_L_low m_3_55 (by decide) rfl (Nat.le_of_ble_eq_true rfl) rfl h ?_
                    intro r43 M42 h
                    refine wp_callVI (a := 0) (d1 := 3) (As := [.int (((x1 >>> (4 &&& 31)) >>> (3 &&& 31)) &&& 1), .int r43]) (st := []) dL_turn_238 rfl cm_X10_row m_3_62 (by decide) rfl (Nat.le_of_ble_eq_true rfl) rfl h ?_
                    intro r45 M44 h
                    exact wp_iret (ty := .int) dL_turn_241 rfl rfl h
                  · replace h := h.1 c41
                    refine wp_aload_n dL_turn_210 rfl rfl ?_
                    refine wp_callSI (d1 := 9) (As := [.ref (ad G 0)]) (st := []) dL_turn_211 cm_L_drawer m_4_130 (by decide) rfl (Nat.le_of_ble_eq_true rfl) rfl h ?_
                    intro r47 M46 h
                    refine wp_if_eq (tgt := 221) dL_turn_214 (by decide) (fun c48 => ?_) (fun c48 => ?_)
                    · replace h := h.1 c48
                      refine wp_iconst (v := 0) dL_turn_221 (by decide) ?_
                      refine wp_goto (tgt := 241) dL_turn_222 (by decide) ?_
                      exact wp_iret (ty := .int) dL_turn_241 rfl rfl h
                    · replace h := h.2 c48
                      refine wp_iconst (v := 1) dL_turn_217 (by decide) ?_
                      refine wp_goto (tgt := 241) dL_turn_218 (by decide) ?_
                      exact wp_iret (ty := .int) dL_turn_241 rfl rfl h
                · replace h := h.2 n7
                  rcases Decidable.em ((x1 &&& 15) = 8) with n8 | n8
                  · replace h := h.1 n8
                    refine wp_tswI (tgt := 242) (v := 8) dL_turn_8 n8 (by decide) (by decide) rfl (by decide) ?_
                    refine wp_aload_n dL_turn_242 rfl rfl ?_
                    refine wp_iload_n dL_turn_243 rfl rfl ?_
                    refine wp_iconst (v := 1) dL_turn_244 (by decide) ?_
                    refine wp_iand dL_turn_245 ?_
                    refine wp_iload_n dL_turn_246 rfl rfl ?_
                    refine wp_iconst (v := 1) dL_turn_247 (by decide) ?_
                    refine wp_ishr dL_turn_248 ?_
                    refine wp_iconst (v := 3) dL_turn_249 (by decide) ?_
                    refine wp_iand dL_turn_250 ?_
                    refine wp_iload_n dL_turn_251 rfl rfl ?_
                    refine wp_iconst (v := 3) dL_turn_252 (by decide) ?_
                    refine wp_ishr dL_turn_253 ?_
                    refine wp_bipush (v := 24) dL_turn_254 (by decide) ?_
                    refine wp_callSI (d1 := 1) (As := [.int ((x1 >>> (4 &&& 31)) >>> (3 &&& 31)), .int 24]) (st := [.int (((x1 >>> (4 &&& 31)) >>> (1 &&& 31)) &&& 3), .int ((x1 >>> (4 &&& 31)) &&& 1), .ref (ad G 0)]) dL_turn_256 cm_L_low m_3_55 (by decide) rfl (Nat.le_of_ble_eq_true rfl) rfl h ?_
                    intro r50 M49 h
                    refine wp_callVI (a := 0) (d1 := 6) (As := [.int ((x1 >>> (4 &&& 31)) &&& 1), .int (((x1 >>> (4 &&& 31)) >>> (1 &&& 31)) &&& 3), .int r50]) (st := []) dL_turn_259 rfl cm_X10_lay m_3_71 (by decide) rfl (Nat.le_of_ble_eq_true rfl) rfl h ?_
                    intro r52 M51 h
                    exact wp_iret (ty := .int) dL_turn_262 rfl rfl h
                  · replace h := h.2 n8
                    rcases Decidable.em ((x1 &&& 15) = 9) with n9 | n9
                    · replace h := h.1 n9
                      refine wp_tswI (tgt := 263) (v := 9) dL_turn_8 n9 (by decide) (by decide) rfl (by decide) ?_
                      refine wp_aload_n dL_turn_263 rfl rfl ?_
                      refine wp_iload_n dL_turn_264 rfl rfl ?_
                      refine wp_bipush (v := 6) dL_turn_265 (by decide) ?_
                      refine wp_callSI (d1 := 1) (As := [.int (x1 >>> (4 &&& 31)), .int 6]) (st := [.ref (ad G 0)]) dL_turn_267 cm_L_low m_3_55 (by decide) rfl (Nat.le_of_ble_eq_true rfl) rfl h ?_
                      intro r54 M53 h
                      refine wp_iconst (v := 1) dL_turn_270 (by decide) ?_
                      refine wp_iload_n dL_turn_271 rfl rfl ?_
                      refine wp_iconst (v := 3) dL_turn_272 (by decide) ?_
                      refine wp_ishr dL_turn_273 ?_
                      refine wp_iconst (v := 5) dL_turn_274 (by decide) ?_
                      refine wp_callSI (d1 := 1) (As := [.int ((x1 >>> (4 &&& 31)) >>> (3 &&& 31)), .int 5]) (st := [.int 1, .int r54, .ref (ad G 0)]) dL_turn_275 cm_L_low m_3_55 (by decide) rfl (Nat.le_of_ble_eq_true rfl) rfl h ?_
                      intro r56 M55 h
                      refine wp_iadd dL_turn_278 ?_
                      refine wp_callVI (a := 0) (d1 := 6) (As := [.int r54, .int ((1 : Int32) + r56)]) (st := []) dL_turn_279 rfl cm_X10_mark m_3_180 (by decide) rfl (Nat.le_of_ble_eq_true rfl) rfl h ?_
                      intro r58 M57 h
                      exact wp_iret (ty := .int) dL_turn_282 rfl rfl h
                    · replace h := h.2 n9
                      rcases Decidable.em ((x1 &&& 15) = 10) with n10 | n10
                      · replace h := h.1 n10
                        refine wp_tswI (tgt := 283) (v := 10) dL_turn_8 n10 (by decide) (by decide) rfl (by decide) ?_
                        refine wp_iload_n dL_turn_283 rfl rfl ?_
                        refine wp_iconst (v := 1) dL_turn_284 (by decide) ?_
                        refine wp_iand dL_turn_285 ?_
                        refine wp_if_ne (tgt := 304) dL_turn_286 (by decide) (fun c59 => ?_) (fun c59 => ?_)
                        · replace h := h.2 c59
                          refine wp_aload_n dL_turn_304 rfl rfl ?_
                          refine wp_iload_n dL_turn_305 rfl rfl ?_
                          refine wp_iconst (v := 1) dL_turn_306 (by decide) ?_
                          refine wp_ishr dL_turn_307 ?_
                          refine wp_iconst (v := 1) dL_turn_308 (by decide) ?_
                          refine wp_iand dL_turn_309 ?_
                          refine wp_callVI (a := 0) (d1 := 6) (As := [.int (((x1 >>> (4 &&& 31)) >>> (1 &&& 31)) &&& 1)]) (st := []) dL_turn_310 rfl cm_X10_pairs m_3_223 (by decide) rfl (Nat.le_of_ble_eq_true rfl) rfl h ?_
                          intro r61 M60 h
                          exact wp_iret (ty := .int) dL_turn_313 rfl rfl h
                        · replace h := h.1 c59
                          refine wp_aload_n dL_turn_289 rfl rfl ?_
                          refine wp_iload_n dL_turn_290 rfl rfl ?_
                          refine wp_iconst (v := 1) dL_turn_291 (by decide) ?_
                          refine wp_ishr dL_turn_292 ?_
                          refine wp_bipush (v := 64) dL_turn_293 (by decide) ?_
                          refine wp_callSI (d1 := 1) (As := [.int ((x1 >>> (4 &&& 31)) >>> (1 &&& 31)), .int 64]) (st := [.ref (ad G 0)]) dL_turn_295 cm_L_low m_3_55 (by decide) rfl (Nat.le_of_ble_eq_true rfl) rfl h ?_
                          intro r63 M62 h
                          refine wp_callVI (a := 0) (d1 := 6) (As := [.int r63]) (st := []) dL_turn_298 rfl cm_X10_good m_3_215 (by decide) rfl (Nat.le_of_ble_eq_true rfl) rfl h ?_
                          intro r65 M64 h
                          refine wp_goto (tgt := 313) dL_turn_301 (by decide) ?_
                          exact wp_iret (ty := .int) dL_turn_313 rfl rfl h
                      · replace h := h.2 n10
                        rcases Decidable.em ((x1 &&& 15) = 11) with n11 | n11
                        · replace h := h.1 n11
                          refine wp_tswI (tgt := 314) (v := 11) dL_turn_8 n11 (by decide) (by decide) rfl (by decide) ?_
                          refine wp_iload_n dL_turn_314 rfl rfl ?_
                          refine wp_iconst (v := 1) dL_turn_315 (by decide) ?_
                          refine wp_iand dL_turn_316 ?_
                          refine wp_if_ne (tgt := 327) dL_turn_317 (by decide) (fun c66 => ?_) (fun c66 => ?_)
                          · replace h := h.2 c66
                            refine wp_aload_n dL_turn_327 rfl rfl ?_
                            refine wp_callVI (a := 0) (d1 := 6) (As := []) (st := []) dL_turn_328 rfl cm_X10_wished m_4_145 (by decide) rfl (Nat.le_of_ble_eq_true rfl) rfl h ?_
                            intro r68 M67 h
                            exact wp_iret (ty := .int) dL_turn_331 rfl rfl h
                          · replace h := h.1 c66
                            refine wp_aload_n dL_turn_320 rfl rfl ?_
                            refine wp_callVI (a := 0) (d1 := 6) (As := []) (st := []) dL_turn_321 rfl cm_X10_missed m_4_136 (by decide) rfl (Nat.le_of_ble_eq_true rfl) rfl h ?_
                            intro r70 M69 h
                            refine wp_goto (tgt := 331) dL_turn_324 (by decide) ?_
                            exact wp_iret (ty := .int) dL_turn_331 rfl rfl h
                        · replace h := h.2 n11
                          rcases Decidable.em ((x1 &&& 15) = 12) with n12 | n12
                          · replace h := h.1 n12
                            refine wp_tswI (tgt := 332) (v := 12) dL_turn_8 n12 (by decide) (by decide) rfl (by decide) ?_
                            refine wp_iload_n dL_turn_332 rfl rfl ?_
                            refine wp_iconst (v := 1) dL_turn_333 (by decide) ?_
                            refine wp_iand dL_turn_334 ?_
                            refine wp_if_ne (tgt := 357) dL_turn_335 (by decide) (fun c71 => ?_) (fun c71 => ?_)
                            · replace h := h.2 c71
                              refine wp_aload_n dL_turn_357 rfl rfl ?_
                              refine wp_callVI (a := 0) (d1 := 6) (As := []) (st := []) dL_turn_358 rfl cm_X10_room m_2_178 (by decide) rfl (Nat.le_of_ble_eq_true rfl) rfl h ?_
                              intro r73 M72 h
                              exact wp_iret (ty := .int) dL_turn_361 rfl rfl h
                            · replace h := h.1 c71
                              refine wp_aload_n dL_turn_338 rfl rfl ?_
                              refine wp_iload_n dL_turn_339 rfl rfl ?_
                              refine wp_iconst (v := 1) dL_turn_340 (by decide) ?_
                              refine wp_ishr dL_turn_341 ?_
                              refine wp_iconst (v := 3) dL_turn_342 (by decide) ?_
                              refine wp_callSI (d1 := 1) (As := [.int ((x1 >>> (4 &&& 31)) >>> (1 &&& 31)), .int 3]) (st := [.ref (ad G 0)]) dL_turn_343 cm_L_low m_3_55 (by decide) rfl (Nat.le_of_ble_eq_true rfl) rfl h ?_
                              intro r75 M74 h
                              refine wp_iload_n dL_turn_346 rfl rfl ?_
                              refine wp_iconst (v := 3) dL_turn_347 (by decide) ?_
                              refine wp_ishr dL_turn_348 ?_
                              refine wp_iconst (v := 1) dL_turn_349 (by decide) ?_
                              refine wp_iand dL_turn_350 ?_
                              refine wp_callVI (a := 0) (d1 := 12) (As := [.int r75, .int (((x1 >>> (4 &&& 31)) >>> (3 &&& 31)) &&& 1)]) (st := []) dL_turn_351 rfl cm_X10_days m_3_237 (by decide) rfl (Nat.le_of_ble_eq_true rfl) rfl h ?_
                              intro r77 M76 h
                              refine wp_goto (tgt := 361) dL_turn_354 (by decide) ?_
                              exact wp_iret (ty := .int) dL_turn_361 rfl rfl h
                          · replace h := h.2 n12
                            rcases Decidable.em ((x1 &&& 15) = 13) with n13 | n13
                            · replace h := h.1 n13
                              refine wp_tswI (tgt := 362) (v := 13) dL_turn_8 n13 (by decide) (by decide) rfl (by decide) ?_
                              refine wp_iload_n dL_turn_362 rfl rfl ?_
                              refine wp_iconst (v := 1) dL_turn_363 (by decide) ?_
                              refine wp_iand dL_turn_364 ?_
                              refine wp_if_ne (tgt := 388) dL_turn_365 (by decide) (fun c78 => ?_) (fun c78 => ?_)
                              · replace h := h.2 c78
                                refine wp_aload_n dL_turn_388 rfl rfl ?_
                                refine wp_iload_n dL_turn_389 rfl rfl ?_
                                refine wp_iconst (v := 1) dL_turn_390 (by decide) ?_
                                refine wp_ishr dL_turn_391 ?_
                                refine wp_bipush (v := 6) dL_turn_392 (by decide) ?_
                                refine wp_callSI (d1 := 1) (As := [.int ((x1 >>> (4 &&& 31)) >>> (1 &&& 31)), .int 6]) (st := [.ref (ad G 0)]) dL_turn_394 cm_L_low m_3_55 (by decide) rfl (Nat.le_of_ble_eq_true rfl) rfl h ?_
                                intro r80 M79 h
                                refine wp_iload_n dL_turn_397 rfl rfl ?_
                                refine wp_iconst (v := 4) dL_turn_398 (by decide) ?_
                                refine wp_ishr dL_turn_399 ?_
                                refine wp_iconst (v := 1) dL_turn_400 (by decide) ?_
                                refine wp_iand dL_turn_401 ?_
                                refine wp_callVI (a := 0) (d1 := 7) (As := [.int r80, .int (((x1 >>> (4 &&& 31)) >>> (4 &&& 31)) &&& 1)]) (st := []) dL_turn_402 rfl cm_X10_test m_4_61 (by decide) rfl (Nat.le_of_ble_eq_true rfl) rfl h ?_
                                intro r82 M81 h
                                exact wp_iret (ty := .int) dL_turn_405 rfl rfl h
                              · replace h := h.1 c78
                                refine wp_aload_n dL_turn_368 rfl rfl ?_
                                refine wp_iload_n dL_turn_369 rfl rfl ?_
                                refine wp_iconst (v := 1) dL_turn_370 (by decide) ?_
                                refine wp_ishr dL_turn_371 ?_
                                refine wp_bipush (v := 6) dL_turn_372 (by decide) ?_
                                refine wp_callSI (d1 := 1) (As := [.int ((x1 >>> (4 &&& 31)) >>> (1 &&& 31)), .int 6]) (st := [.ref (ad G 0)]) dL_turn_374 cm_L_low m_3_55 (by decide) rfl (Nat.le_of_ble_eq_true rfl) rfl h ?_
                                intro r84 M83 h
                                refine wp_iload_n dL_turn_377 rfl rfl ?_
                                refine wp_iconst (v := 4) dL_turn_378 (by decide) ?_
                                refine wp_ishr dL_turn_379 ?_
                                refine wp_iconst (v := 1) dL_turn_380 (by decide) ?_
                                refine wp_iand dL_turn_381 ?_
                                refine wp_callVI (a := 0) (d1 := 7) (As := [.int r84, .int (((x1 >>> (4 &&& 31)) >>> (4 &&& 31)) &&& 1)]) (st := []) dL_turn_382 rfl cm_X10_kinds m_4_53 (by decide) rfl (Nat.le_of_ble_eq_true rfl) rfl h ?_
                                intro r86 M85 h
                                refine wp_goto (tgt := 405) dL_turn_385 (by decide) ?_
                                exact wp_iret (ty := .int) dL_turn_405 rfl rfl h
                            · replace h := h.2 n13
                              rcases Decidable.em ((x1 &&& 15) = 14) with n14 | n14
                              · replace h := h.1 n14
                                refine wp_tswI (tgt := 406) (v := 14) dL_turn_8 n14 (by decide) (by decide) rfl (by decide) ?_
                                refine wp_iload_n dL_turn_406 rfl rfl ?_
                                refine wp_iconst (v := 1) dL_turn_407 (by decide) ?_
                                refine wp_iand dL_turn_408 ?_
                                refine wp_if_ne (tgt := 443) dL_turn_409 (by decide) (fun c87 => ?_) (fun c87 => ?_)
                                · replace h := h.2 c87
                                  refine wp_aload_n dL_turn_443 rfl rfl ?_
                                  refine wp_iload_n dL_turn_444 rfl rfl ?_
                                  refine wp_iconst (v := 1) dL_turn_445 (by decide) ?_
                                  refine wp_ishr dL_turn_446 ?_
                                  refine wp_bipush (v := 13) dL_turn_447 (by decide) ?_
                                  refine wp_callSI (d1 := 1) (As := [.int ((x1 >>> (4 &&& 31)) >>> (1 &&& 31)), .int 13]) (st := [.ref (ad G 0)]) dL_turn_449 cm_L_low m_3_55 (by decide) rfl (Nat.le_of_ble_eq_true rfl) rfl h ?_
                                  intro r89 M88 h
                                  refine wp_iload_n dL_turn_452 rfl rfl ?_
                                  refine wp_iconst (v := 5) dL_turn_453 (by decide) ?_
                                  refine wp_ishr dL_turn_454 ?_
                                  refine wp_bipush (v := 13) dL_turn_455 (by decide) ?_
                                  refine wp_callSI (d1 := 1) (As := [.int ((x1 >>> (4 &&& 31)) >>> (5 &&& 31)), .int 13]) (st := [.int r89, .ref (ad G 0)]) dL_turn_457 cm_L_low m_3_55 (by decide) rfl (Nat.le_of_ble_eq_true rfl) rfl h ?_
                                  intro r91 M90 h
                                  refine wp_callVI (a := 0) (d1 := 6) (As := [.int r89, .int r91]) (st := []) dL_turn_460 rfl cm_X10_mid m_4_122 (by decide) rfl (Nat.le_of_ble_eq_true rfl) rfl h ?_
                                  intro r93 M92 h
                                  exact wp_iret (ty := .int) dL_turn_463 rfl rfl h
                                · replace h := h.1 c87
                                  refine wp_aload_n dL_turn_412 rfl rfl ?_
                                  refine wp_iload_n dL_turn_413 rfl rfl ?_
                                  refine wp_iconst (v := 1) dL_turn_414 (by decide) ?_
                                  refine wp_ishr dL_turn_415 ?_
                                  refine wp_iconst (v := 5) dL_turn_416 (by decide) ?_
                                  refine wp_callSI (d1 := 1) (As := [.int ((x1 >>> (4 &&& 31)) >>> (1 &&& 31)), .int 5]) (st := [.ref (ad G 0)]) dL_turn_417 cm_L_low m_3_55 (by decide) rfl (Nat.le_of_ble_eq_true rfl) rfl h ?_
                                  intro r95 M94 h
                                  refine wp_iload_n dL_turn_420 rfl rfl ?_
                                  refine wp_iconst (v := 4) dL_turn_421 (by decide) ?_
                                  refine wp_ishr dL_turn_422 ?_
                                  refine wp_bipush (v := 13) dL_turn_423 (by decide) ?_
                                  refine wp_callSI (d1 := 1) (As := [.int ((x1 >>> (4 &&& 31)) >>> (4 &&& 31)), .int 13]) (st := [.int r95, .ref (ad G 0)]) dL_turn_425 cm_L_low m_3_55 (by decide) rfl (Nat.le_of_ble_eq_true rfl) rfl h ?_
                                  intro r97 M96 h
                                  refine wp_iload_n dL_turn_428 rfl rfl ?_
                                  refine wp_bipush (v := 8) dL_turn_429 (by decide) ?_
                                  refine wp_ishr dL_turn_431 ?_
                                  refine wp_bipush (v := 13) dL_turn_432 (by decide) ?_
                                  refine wp_callSI (d1 := 1) (As := [.int ((x1 >>> (4 &&& 31)) >>> (8 &&& 31)), .int 13]) (st := [.int r97, .int r95, .ref (ad G 0)]) dL_turn_434 cm_L_low m_3_55 (by decide) rfl (Nat.le_of_ble_eq_true rfl) rfl h ?_
                                  intro r99 M98 h
                                  refine wp_callVI (a := 0) (d1 := 6) (As := [.int r95, .int r97, .int r99]) (st := []) dL_turn_437 rfl cm_X10_odds m_4_93 (by decide) rfl (Nat.le_of_ble_eq_true rfl) rfl h ?_
                                  intro r101 M100 h
                                  refine wp_goto (tgt := 463) dL_turn_440 (by decide) ?_
                                  exact wp_iret (ty := .int) dL_turn_463 rfl rfl h
                              · replace h := h.2 n14
                                refine wp_tswD (tgt := 464) dL_turn_8 (by have e0 : ((x1 &&& 15) : Int32).toInt ≠ 0 := fun e => n0 (Int32.toInt_inj.mp e); have e1 : ((x1 &&& 15) : Int32).toInt ≠ 1 := fun e => n1 (Int32.toInt_inj.mp e); have e2 : ((x1 &&& 15) : Int32).toInt ≠ 2 := fun e => n2 (Int32.toInt_inj.mp e); have e3 : ((x1 &&& 15) : Int32).toInt ≠ 3 := fun e => n3 (Int32.toInt_inj.mp e); have e4 : ((x1 &&& 15) : Int32).toInt ≠ 4 := fun e => n4 (Int32.toInt_inj.mp e); have e5 : ((x1 &&& 15) : Int32).toInt ≠ 5 := fun e => n5 (Int32.toInt_inj.mp e); have e6 : ((x1 &&& 15) : Int32).toInt ≠ 6 := fun e => n6 (Int32.toInt_inj.mp e); have e7 : ((x1 &&& 15) : Int32).toInt ≠ 7 := fun e => n7 (Int32.toInt_inj.mp e); have e8 : ((x1 &&& 15) : Int32).toInt ≠ 8 := fun e => n8 (Int32.toInt_inj.mp e); have e9 : ((x1 &&& 15) : Int32).toInt ≠ 9 := fun e => n9 (Int32.toInt_inj.mp e); have e10 : ((x1 &&& 15) : Int32).toInt ≠ 10 := fun e => n10 (Int32.toInt_inj.mp e); have e11 : ((x1 &&& 15) : Int32).toInt ≠ 11 := fun e => n11 (Int32.toInt_inj.mp e); have e12 : ((x1 &&& 15) : Int32).toInt ≠ 12 := fun e => n12 (Int32.toInt_inj.mp e); have e13 : ((x1 &&& 15) : Int32).toInt ≠ 13 := fun e => n13 (Int32.toInt_inj.mp e); have e14 : ((x1 &&& 15) : Int32).toInt ≠ 14 := fun e => n14 (Int32.toInt_inj.mp e); omega) (by decide) ?_
                                refine wp_iload_n dL_turn_464 rfl rfl ?_
                                refine wp_iconst (v := 1) dL_turn_465 (by decide) ?_
                                refine wp_iand dL_turn_466 ?_
                                refine wp_if_ne (tgt := 491) dL_turn_467 (by decide) (fun c102 => ?_) (fun c102 => ?_)
                                · replace h := h.2 c102
                                  refine wp_aload_n dL_turn_491 rfl rfl ?_
                                  refine wp_iload_n dL_turn_492 rfl rfl ?_
                                  refine wp_iconst (v := 1) dL_turn_493 (by decide) ?_
                                  refine wp_ishr dL_turn_494 ?_
                                  refine wp_iconst (v := 4) dL_turn_495 (by decide) ?_
                                  refine wp_callSI (d1 := 1) (As := [.int ((x1 >>> (4 &&& 31)) >>> (1 &&& 31)), .int 4]) (st := [.ref (ad G 0)]) dL_turn_496 cm_L_low m_3_55 (by decide) rfl (Nat.le_of_ble_eq_true rfl) rfl h ?_
                                  intro r104 M103 h
                                  refine wp_callVI (a := 0) (d1 := 10) (As := [.int r104]) (st := []) dL_turn_499 rfl cm_X10_duel m_4_79 (by decide) rfl (Nat.le_of_ble_eq_true rfl) rfl h ?_
                                  intro r106 M105 h
                                  exact wp_iret (ty := .int) dL_turn_502 rfl rfl h
                                · replace h := h.1 c102
                                  refine wp_aload_n dL_turn_470 rfl rfl ?_
                                  refine wp_iconst (v := 1) dL_turn_471 (by decide) ?_
                                  refine wp_iload_n dL_turn_472 rfl rfl ?_
                                  refine wp_iconst (v := 1) dL_turn_473 (by decide) ?_
                                  refine wp_ishr dL_turn_474 ?_
                                  refine wp_iconst (v := 3) dL_turn_475 (by decide) ?_
                                  refine wp_callSI (d1 := 1) (As := [.int ((x1 >>> (4 &&& 31)) >>> (1 &&& 31)), .int 3]) (st := [.int 1, .ref (ad G 0)]) dL_turn_476 cm_L_low m_3_55 (by decide) rfl (Nat.le_of_ble_eq_true rfl) rfl h ?_
                                  intro r108 M107 h
                                  refine wp_iadd dL_turn_479 ?_
                                  refine wp_iconst (v := 1) dL_turn_480 (by decide) ?_
                                  refine wp_iload_n dL_turn_481 rfl rfl ?_
                                  refine wp_iconst (v := 3) dL_turn_482 (by decide) ?_
                                  refine wp_ishr dL_turn_483 ?_
                                  refine wp_iadd dL_turn_484 ?_
                                  refine wp_callVI (a := 0) (d1 := 6) (As := [.int ((1 : Int32) + r108), .int ((1 : Int32) + ((x1 >>> (4 &&& 31)) >>> (3 &&& 31)))]) (st := []) dL_turn_485 rfl cm_X10_lots m_2_210 (by decide) rfl (Nat.le_of_ble_eq_true rfl) rfl h ?_
                                  intro r110 M109 h
                                  refine wp_goto (tgt := 502) dL_turn_488 (by decide) ?_
                                  exact wp_iret (ty := .int) dL_turn_502 rfl rfl h
