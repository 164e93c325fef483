abbrev C_X4_becomeLike (G : Glob) (th : Nat) (o1 : Nat) (M : Mem) (Q : Option Value → Mem → Prop) : Prop := WpM G 1 Y_X4_becomeLike [.ref (ad G th), .ref (ad G o1)] M Q
set_option maxRecDepth 20000 in
theorem v_X4_becomeLike {G : Glob} {th : Nat} {o1 : Nat} {M : Mem} {Q : Option Value → Mem → Prop} (hth : kd th = 4) (hk1 : kd o1 = 4) (h : (∀ M1 : Mem, M1 = upI M th 0 (M.1 o1 0) → (∀ M2 : Mem, M2 = upI M1 th 1 (M1.1 o1 1) → (∀ M3 : Mem, M3 = upI M2 th 2 (M2.1 o1 2) → (∀ M4 : Mem, M4 = upI M3 th 3 (M3.1 o1 3) → (∀ M5 : Mem, M5 = upI M4 th 4 (M4.1 o1 4) → (∀ M6 : Mem, M6 = upI M5 th 5 (M5.1 o1 5) → Q none M6))))))) : C_X4_becomeLike G th o1 M Q := by
  refine wp_enter (ls0 := [some (.ref (ad G th)), some (.ref (ad G o1))]) (by decide +kernel) (Nat.le_of_ble_eq_true rfl) rfl ?_
  refine wp_aload_n dX4_becomeLike_0 rfl rfl ?_
  refine wp_aload_n dX4_becomeLike_1 rfl rfl ?_
  refine wp_getI dX4_becomeLike_2 hk1 fb_4_0 m_1_108 ?_
  refine wp_putI dX4_becomeLike_5 hth fp_4_0 m_1_108 ?_
  refine wp_topM (fun M1 hM1 => ?_)
  replace h := h M1 hM1
  refine wp_aload_n dX4_becomeLike_8 rfl rfl ?_
  refine wp_aload_n dX4_becomeLike_9 rfl rfl ?_
  refine wp_getI dX4_becomeLike_10 hk1 fb_4_1 m_1_113 ?_
  refine wp_putI dX4_becomeLike_13 hth fp_4_1 m_1_113 ?_
  refine wp_topM (fun M2 hM2 => ?_)
  replace h := h M2 hM2
  refine wp_aload_n dX4_becomeLike_16 rfl rfl ?_
  refine wp_aload_n dX4_becomeLike_17 rfl rfl ?_
  refine wp_getI dX4_becomeLike_18 hk1 fb_4_2 m_1_116 ?_
  refine wp_putI dX4_becomeLike_21 hth fp_4_2 m_1_116 ?_
  refine wp_topM (fun M3 hM3 => ?_)
  replace h := h M3 hM3
  refine wp_aload_n dX4_becomeLike_24 rfl rfl ?_
  refine wp_aload_n dX4_becomeLike_25 rfl rfl ?_
  refine wp_getI dX4_becomeLike_26 hk1 fb_4_3 m_1_120 ?_
  refine wp_putI dX4_becomeLike_29 hth fp_4_3 m_1_120 ?_
  refine wp_topM (fun M4 hM4 => ?_)
  replace h := h M4 hM4
  refine wp_aload_n dX4_becomeLike_32 rfl rfl ?_
  refine wp_aload_n dX4_becomeLike_33 rfl rfl ?_
  refine wp_getI dX4_becomeLike_34 hk1 fb_4_4 m_1_122 ?_
  refine wp_putI dX4_becomeLike_37 hth fp_4_4 m_1_122 ?_
  refine wp_topM (fun M5 hM5 => ?_)
  replace h := h M5 hM5
  refine wp_aload_n dX4_becomeLike_40 rfl rfl ?_
  refine wp_aload_n dX4_becomeLike_41 rfl rfl ?_
  refine wp_getI dX4_becomeLike_42 hk1 fb_4_5 m_1_126 ?_
  refine wp_putI dX4_becomeLike_45 hth fp_4_5 m_1_126 ?_
  refine wp_topM (fun M6 hM6 => ?_)
  replace h := h M6 hM6
  exact wp_vret dX4_becomeLike_48 rfl h
abbrev C_X4_isOf (G : Glob) (th : Nat) (x1 : Int32) (M : Mem) (Q : Option Value → Mem → Prop) : Prop := WpM G 1 Y_X4_isOf [.ref (ad G th), .int x1] M Q
set_option maxRecDepth 20000 in
theorem v_X4_isOf {G : Glob} {th : Nat} {x1 : Int32} {M : Mem} {Q : Option Value → Mem → Prop} (hth : kd th = 4) (h : ((x1 = (M.1 th 0) → Q (some (.int 1)) M) ∧ (¬ x1 = (M.1 th 0) → ((x1 = 0 → Q (some (.int 1)) M) ∧ (¬ x1 = 0 → ((x1 = 1 → (((M.1 th 0) = 4 → Q (some (.int 1)) M) ∧ (¬ (M.1 th 0) = 4 → ((x1 = 2 → (((M.1 th 0) = 5 → Q (some (.int 1)) M) ∧ (¬ (M.1 th 0) = 5 → Q (some (.int 0)) M))) ∧ (¬ x1 = 2 → Q (some (.int 0)) M))))) ∧ (¬ x1 = 1 → ((x1 = 2 → (((M.1 th 0) = 5 → Q (some (.int 1)) M) ∧ (¬ (M.1 th 0) = 5 → Q (some (.int 0)) M))) ∧ (¬ x1 = 2 → Q (some (.int 0)) M))))))))) : C_X4_isOf G th x1 M Q := by
  refine wp_enter (ls0 := [some (.ref (ad G th)), some (.int x1)]) (by decide +kernel) (Nat.le_of_ble_eq_true rfl) rfl ?_
  refine wp_iload_n dX4_isOf_0 rfl rfl ?_
  refine wp_aload_n dX4_isOf_1 rfl rfl ?_
  refine wp_getI dX4_isOf_2 hth fb_4_0 m_1_108 ?_
  refine wp_icmp_eq (tgt := 38) dX4_isOf_5 (by decide) (fun c1 => ?_) (fun c1 => ?_)
  · replace h := h.1 c1
    refine wp_iconst (v := 1) dX4_isOf_38 (by decide) ?_
    refine wp_goto (tgt := 43) dX4_isOf_39 (by decide) ?_
    exact wp_iret (ty := .boolean) dX4_isOf_43 rfl rfl h
  · replace h := h.2 c1
    refine wp_iload_n dX4_isOf_8 rfl rfl ?_
    refine wp_if_eq (tgt := 38) dX4_isOf_9 (by decide) (fun c2 => ?_) (fun c2 => ?_)
    · replace h := h.1 c2
      refine wp_iconst (v := 1) dX4_isOf_38 (by decide) ?_
      refine wp_goto (tgt := 43) dX4_isOf_39 (by decide) ?_
      exact wp_iret (ty := .boolean) dX4_isOf_43 rfl rfl h
    · replace h := h.2 c2
      refine wp_iload_n dX4_isOf_12 rfl rfl ?_
      refine wp_iconst (v := 1) dX4_isOf_13 (by decide) ?_
      refine wp_icmp_ne (tgt := 25) dX4_isOf_14 (by decide) (fun c3 => ?_) (fun c3 => ?_)
      · replace h := h.2 c3
        refine wp_iload_n dX4_isOf_25 rfl rfl ?_
        refine wp_iconst (v := 2) dX4_isOf_26 (by decide) ?_
        refine wp_icmp_ne (tgt := 42) dX4_isOf_27 (by decide) (fun c4 => ?_) (fun c4 => ?_)
        · replace h := h.2 c4
          refine wp_iconst (v := 0) dX4_isOf_42 (by decide) ?_
          exact wp_iret (ty := .boolean) dX4_isOf_43 rfl rfl h
        · replace h := h.1 c4
          refine wp_aload_n dX4_isOf_30 rfl rfl ?_
          refine wp_getI dX4_isOf_31 hth fb_4_0 m_1_108 ?_
          refine wp_iconst (v := 5) dX4_isOf_34 (by decide) ?_
          refine wp_icmp_ne (tgt := 42) dX4_isOf_35 (by decide) (fun c5 => ?_) (fun c5 => ?_)
          · replace h := h.2 c5
            refine wp_iconst (v := 0) dX4_isOf_42 (by decide) ?_
            exact wp_iret (ty := .boolean) dX4_isOf_43 rfl rfl h
          · replace h := h.1 c5
            refine wp_iconst (v := 1) dX4_isOf_38 (by decide) ?_
            refine wp_goto (tgt := 43) dX4_isOf_39 (by decide) ?_
            exact wp_iret (ty := .boolean) dX4_isOf_43 rfl rfl h
      · replace h := h.1 c3
        refine wp_aload_n dX4_isOf_17 rfl rfl ?_
        refine wp_getI dX4_isOf_18 hth fb_4_0 m_1_108 ?_
        refine wp_iconst (v := 4) dX4_isOf_21 (by decide) ?_
        refine wp_icmp_eq (tgt := 38) dX4_isOf_22 (by decide) (fun c6 => ?_) (fun c6 => ?_)
        · replace h := h.1 c6
          refine wp_iconst (v := 1) dX4_isOf_38 (by decide) ?_
          refine wp_goto (tgt := 43) dX4_isOf_39 (by decide) ?_
          exact wp_iret (ty := .boolean) dX4_isOf_43 rfl rfl h
        · replace h := h.2 c6
          refine wp_iload_n dX4_isOf_25 rfl rfl ?_
          refine wp_iconst (v := 2) dX4_isOf_26 (by decide) ?_
          refine wp_icmp_ne (tgt := 42) dX4_isOf_27 (by decide) (fun c7 => ?_) (fun c7 => ?_)
          · replace h := h.2 c7
            refine wp_iconst (v := 0) dX4_isOf_42 (by decide) ?_
            exact wp_iret (ty := .boolean) dX4_isOf_43 rfl rfl h
          · replace h := h.1 c7
            refine wp_aload_n dX4_isOf_30 rfl rfl ?_
            refine wp_getI dX4_isOf_31 hth fb_4_0 m_1_108 ?_
            refine wp_iconst (v := 5) dX4_isOf_34 (by decide) ?_
            refine wp_icmp_ne (tgt := 42) dX4_isOf_35 (by decide) (fun c8 => ?_) (fun c8 => ?_)
            · replace h := h.2 c8
              refine wp_iconst (v := 0) dX4_isOf_42 (by decide) ?_
              exact wp_iret (ty := .boolean) dX4_isOf_43 rfl rfl h
            · replace h := h.1 c8
              refine wp_iconst (v := 1) dX4_isOf_38 (by decide) ?_
              refine wp_goto (tgt := 43) dX4_isOf_39 (by decide) ?_
              exact wp_iret (ty := .boolean) dX4_isOf_43 rfl rfl h
abbrev C_X4_bareWarmth (G : Glob) (th : Nat) (M : Mem) (Q : Option Value → Mem → Prop) : Prop := WpM G 1 Y_X4_bareWarmth [.ref (ad G th)] M Q
set_option maxRecDepth 20000 in
theorem v_X4_bareWarmth {G : Glob} {th : Nat} {M : Mem} {Q : Option Value → Mem → Prop} (hth : kd th = 4) (h : Q (some (.int (if 0 < ((M.1 th 3) - ((M.1 th 4) / 3)) then ((M.1 th 3) - ((M.1 th 4) / 3)) else 0))) M) : C_X4_bareWarmth G th M Q := by
  refine wp_enter (ls0 := [some (.ref (ad G th))]) (by decide +kernel) (Nat.le_of_ble_eq_true rfl) rfl ?_
  refine wp_iconst (v := 0) dX4_bareWarmth_0 (by decide) ?_
  refine wp_aload_n dX4_bareWarmth_1 rfl rfl ?_
  refine wp_getI dX4_bareWarmth_2 hth fb_4_3 m_1_120 ?_
  refine wp_aload_n dX4_bareWarmth_5 rfl rfl ?_
  refine wp_getI dX4_bareWarmth_6 hth fb_4_4 m_1_122 ?_
  refine wp_iconst (v := 3) dX4_bareWarmth_9 (by decide) ?_
  refine wp_idiv dX4_bareWarmth_10 (by decide) ?_
  refine wp_isub dX4_bareWarmth_11 ?_
  refine wp_max m_2_102 (by decide) mw_max (Nat.le_of_ble_eq_true rfl) dX4_bareWarmth_12 ?_
  exact wp_iret (ty := .int) dX4_bareWarmth_15 rfl rfl h
abbrev C_X4_warmth (G : Glob) (th : Nat) (M : Mem) (Q : Option Value → Mem → Prop) : Prop := WpM G 2 Y_X4_warmth [.ref (ad G th)] M Q
set_option maxRecDepth 20000 in
theorem v_X4_warmth {G : Glob} {th : Nat} {M : Mem} {Q : Option Value → Mem → Prop} (hth : kd th = 4) (h : (WpM G 1 Y_X4_bareWarmth [.ref (ad G th)] M (RI (fun r2 M1 => (((M1.1 th 0) = 1 → Q (some (.int (r2 + 2))) M1) ∧ (¬ (M1.1 th 0) = 1 → (((M1.1 th 0) = 2 → Q (some (.int (if 0 < (r2 - 1) then (r2 - 1) else 0))) M1) ∧ (¬ (M1.1 th 0) = 2 → (((M1.1 th 0) = 3 → Q (some (.int r2)) M1) ∧ (¬ (M1.1 th 0) = 3 → (((M1.1 th 0) = 4 → (((M1.1 th 4) < 6 → Q (some (.int (r2 + 3))) M1) ∧ (¬ (M1.1 th 4) < 6 → Q (some (.int r2)) M1))) ∧ (¬ (M1.1 th 0) = 4 → (((M1.1 th 0) = 5 → Q (some (.int (if 0 < (r2 - 1) then (r2 - 1) else 0))) M1) ∧ (¬ (M1.1 th 0) = 5 → Q (some (.int r2)) M1)))))))))))))) : C_X4_warmth G th M Q := by
  refine wp_enter (ls0 := [some (.ref (ad G th)), none]) (by decide +kernel) (Nat.le_of_ble_eq_true rfl) rfl ?_
  refine wp_aload_n dX4_warmth_0 rfl rfl ?_
  refine wp_callVI (a := th) (d1 := 1) (As := []) (st := []) dX4_warmth_1 hth cm_X4_bareWarmth m_2_98 (by decide) rfl (Nat.le_of_ble_eq_true rfl) rfl h ?_
  intro r2 M1 h
  refine wp_istore_n (ls' := [some (.ref (ad G th)), some (.int r2)]) dX4_warmth_4 rfl (by decide) rfl rfl ?_
  refine wp_aload_n dX4_warmth_5 rfl rfl ?_
  refine wp_getI dX4_warmth_6 hth fb_4_0 m_1_108 ?_
  rcases Decidable.em ((M1.1 th 0) = 1) with n0 | n0
  · replace h := h.1 n0
    refine wp_tswI (tgt := 44) (v := 1) dX4_warmth_9 n0 (by decide) (by decide) rfl (by decide) ?_
    refine wp_iload_n dX4_warmth_44 rfl rfl ?_
    refine wp_iconst (v := 2) dX4_warmth_45 (by decide) ?_
    refine wp_iadd dX4_warmth_46 ?_
    exact wp_iret (ty := .int) dX4_warmth_47 rfl rfl h
  · replace h := h.2 n0
    rcases Decidable.em ((M1.1 th 0) = 2) with n1 | n1
    · replace h := h.1 n1
      refine wp_tswI (tgt := 48) (v := 2) dX4_warmth_9 n1 (by decide) (by decide) rfl (by decide) ?_
      refine wp_iconst (v := 0) dX4_warmth_48 (by decide) ?_
      refine wp_iload_n dX4_warmth_49 rfl rfl ?_
      refine wp_iconst (v := 1) dX4_warmth_50 (by decide) ?_
      refine wp_isub dX4_warmth_51 ?_
      refine wp_max m_2_102 (by decide) mw_max (Nat.le_of_ble_eq_true rfl) dX4_warmth_52 ?_
      exact wp_iret (ty := .int) dX4_warmth_55 rfl rfl h
    · replace h := h.2 n1
      rcases Decidable.em ((M1.1 th 0) = 3) with n2 | n2
      · replace h := h.1 n2
        refine wp_tswI (tgt := 73) (v := 3) dX4_warmth_9 n2 (by decide) (by decide) rfl (by decide) ?_
        refine wp_iload_n dX4_warmth_73 rfl rfl ?_
        exact wp_iret (ty := .int) dX4_warmth_74 rfl rfl h
      · replace h := h.2 n2
        rcases Decidable.em ((M1.1 th 0) = 4) with n3 | n3
        · replace h := h.1 n3
          refine wp_tswI (tgt := 56) (v := 4) dX4_warmth_9 n3 (by decide) (by decide) rfl (by decide) ?_
          refine wp_aload_n dX4_warmth_56 rfl rfl ?_
          refine wp_getI dX4_warmth_57 hth fb_4_4 m_1_122 ?_
          refine wp_bipush (v := 6) dX4_warmth_60 (by decide) ?_
          refine wp_icmp_ge (tgt := 71) dX4_warmth_62 (by decide) (fun c3 => ?_) (fun c3 => ?_)
          · replace h := h.2 c3
            refine wp_iload_n dX4_warmth_71 rfl rfl ?_
            exact wp_iret (ty := .int) dX4_warmth_72 rfl rfl h
          · replace h := h.1 c3
            refine wp_iload_n dX4_warmth_65 rfl rfl ?_
            refine wp_iconst (v := 3) dX4_warmth_66 (by decide) ?_
            refine wp_iadd dX4_warmth_67 ?_
            refine wp_goto (tgt := 72) dX4_warmth_68 (by decide) ?_
            exact wp_iret (ty := .int) dX4_warmth_72 rfl rfl h
        · replace h := h.2 n3
          rcases Decidable.em ((M1.1 th 0) = 5) with n4 | n4
          · replace h := h.1 n4
            refine wp_tswI (tgt := 48) (v := 5) dX4_warmth_9 n4 (by decide) (by decide) rfl (by decide) ?_
            refine wp_iconst (v := 0) dX4_warmth_48 (by decide) ?_
            refine wp_iload_n dX4_warmth_49 rfl rfl ?_
            refine wp_iconst (v := 1) dX4_warmth_50 (by decide) ?_
            refine wp_isub dX4_warmth_51 ?_
            refine wp_max m_2_102 (by decide) mw_max (Nat.le_of_ble_eq_true rfl) dX4_warmth_52 ?_
            exact wp_iret (ty := .int) dX4_warmth_55 rfl rfl h
          · replace h := h.2 n4
            refine wp_tswD (tgt := 73) dX4_warmth_9 (by have e0 : ((M1.1 th 0) : Int32).toInt ≠ 1 := fun e => n0 (Int32.toInt_inj.mp e); have e1 : ((M1.1 th 0) : Int32).toInt ≠ 2 := fun e => n1 (Int32.toInt_inj.mp e); have e2 : ((M1.1 th 0) : Int32).toInt ≠ 3 := fun e => n2 (Int32.toInt_inj.mp e); have e3 : ((M1.1 th 0) : Int32).toInt ≠ 4 := fun e => n3 (Int32.toInt_inj.mp e); have e4 : ((M1.1 th 0) : Int32).toInt ≠ 5 := fun e => n4 (Int32.toInt_inj.mp e); omega) (by decide) ?_
            refine wp_iload_n dX4_warmth_73 rfl rfl ?_
            exact wp_iret (ty := .int) dX4_warmth_74 rfl rfl h
abbrev C_X4_goesOn (G : Glob) (th : Nat) (x1 : Int32) (M : Mem) (Q : Option Value → Mem → Prop) : Prop := WpM G 2 Y_X4_goesOn [.ref (ad G th), .int x1] M Q
set_option maxRecDepth 20000 in
theorem v_X4_goesOn {G : Glob} {th : Nat} {x1 : Int32} {M : Mem} {Q : Option Value → Mem → Prop} (hth : kd th = 4) (h : (((M.1 th 2) = x1 → Q (some (.int 1)) M) ∧ (¬ (M.1 th 2) = x1 → (WpM G 1 Y_X4_isOf [.ref (ad G th), .int 2] M (RI (fun r3 M2 => ((r3 = 0 → Q (some (.int 0)) M2) ∧ (¬ r3 = 0 → Q (some (.int 1)) M2)))))))) : C_X4_goesOn G th x1 M Q := by
  refine wp_enter (ls0 := [some (.ref (ad G th)), some (.int x1)]) (by decide +kernel) (Nat.le_of_ble_eq_true rfl) rfl ?_
  refine wp_aload_n dX4_goesOn_0 rfl rfl ?_
  refine wp_getI dX4_goesOn_1 hth fb_4_2 m_1_116 ?_
  refine wp_iload_n dX4_goesOn_4 rfl rfl ?_
  refine wp_icmp_eq (tgt := 16) dX4_goesOn_5 (by decide) (fun c1 => ?_) (fun c1 => ?_)
  · replace h := h.1 c1
    refine wp_iconst (v := 1) dX4_goesOn_16 (by decide) ?_
    refine wp_goto (tgt := 21) dX4_goesOn_17 (by decide) ?_
    exact wp_iret (ty := .boolean) dX4_goesOn_21 rfl rfl h
  · replace h := h.2 c1
    refine wp_aload_n dX4_goesOn_8 rfl rfl ?_
    refine wp_iconst (v := 2) dX4_goesOn_9 (by decide) ?_
    refine wp_callVI (a := th) (d1 := 1) (As := [.int 2]) (st := []) dX4_goesOn_10 hth cm_X4_isOf m_2_90 (by decide) rfl (Nat.le_of_ble_eq_true rfl) rfl h ?_
    intro r3 M2 h
    refine wp_if_eq (tgt := 20) dX4_goesOn_13 (by decide) (fun c4 => ?_) (fun c4 => ?_)
    · replace h := h.1 c4
      refine wp_iconst (v := 0) dX4_goesOn_20 (by decide) ?_
      exact wp_iret (ty := .boolean) dX4_goesOn_21 rfl rfl h
    · replace h := h.2 c4
      refine wp_iconst (v := 1) dX4_goesOn_16 (by decide) ?_
      refine wp_goto (tgt := 21) dX4_goesOn_17 (by decide) ?_
      exact wp_iret (ty := .boolean) dX4_goesOn_21 rfl rfl h
abbrev C_X4_makesPairWith (G : Glob) (th : Nat) (o1 : Nat) (M : Mem) (Q : Option Value → Mem → Prop) : Prop := WpM G 3 Y_X4_makesPairWith [.ref (ad G th), .ref (ad G o1)] M Q
set_option maxRecDepth 20000 in
theorem v_X4_makesPairWith {G : Glob} {th : Nat} {o1 : Nat} {M : Mem} {Q : Option Value → Mem → Prop} (hth : kd th = 4) (hk1 : kd o1 = 4) (h : (WpM G 2 Y_X4_goesOn [.ref (ad G th), .int 0] M (RI (fun r2 M1 => ((r2 = 0 → (WpM G 2 Y_X4_goesOn [.ref (ad G th), .int 1] M1 (RI (fun r5 M4 => ((r5 = 0 → Q (some (.int 0)) M4) ∧ (¬ r5 = 0 → (WpM G 2 Y_X4_goesOn [.ref (ad G o1), .int 0] M4 (RI (fun r8 M7 => ((r8 = 0 → Q (some (.int 0)) M7) ∧ (¬ r8 = 0 → Q (some (.int 1)) M7))))))))))) ∧ (¬ r2 = 0 → (WpM G 2 Y_X4_goesOn [.ref (ad G o1), .int 1] M1 (RI (fun r11 M10 => ((r11 = 0 → (WpM G 2 Y_X4_goesOn [.ref (ad G th), .int 1] M10 (RI (fun r14 M13 => ((r14 = 0 → Q (some (.int 0)) M13) ∧ (¬ r14 = 0 → (WpM G 2 Y_X4_goesOn [.ref (ad G o1), .int 0] M13 (RI (fun r17 M16 => ((r17 = 0 → Q (some (.int 0)) M16) ∧ (¬ r17 = 0 → Q (some (.int 1)) M16))))))))))) ∧ (¬ r11 = 0 → Q (some (.int 1)) M10))))))))))) : C_X4_makesPairWith G th o1 M Q := by
  refine wp_enter (ls0 := [some (.ref (ad G th)), some (.ref (ad G o1))]) (by decide +kernel) (Nat.le_of_ble_eq_true rfl) rfl ?_
  refine wp_aload_n dX4_makesPairWith_0 rfl rfl ?_
  refine wp_iconst (v := 0) dX4_makesPairWith_1 (by decide) ?_
  refine wp_callVI (a := th) (d1 := 2) (As := [.int 0]) (st := []) dX4_makesPairWith_2 hth cm_X4_goesOn m_2_86 (by decide) rfl (Nat.le_of_ble_eq_true rfl) rfl h ?_
  intro r2 M1 h
  refine wp_if_eq (tgt := 16) dX4_makesPairWith_5 (by decide) (fun c3 => ?_) (fun c3 => ?_)
  · replace h := h.1 c3
    refine wp_aload_n dX4_makesPairWith_16 rfl rfl ?_
    refine wp_iconst (v := 1) dX4_makesPairWith_17 (by decide) ?_
    refine wp_callVI (a := th) (d1 := 2) (As := [.int 1]) (st := []) dX4_makesPairWith_18 hth cm_X4_goesOn m_2_86 (by decide) rfl (Nat.le_of_ble_eq_true rfl) rfl h ?_
    intro r5 M4 h
    refine wp_if_eq (tgt := 36) dX4_makesPairWith_21 (by decide) (fun c6 => ?_) (fun c6 => ?_)
    · replace h := h.1 c6
      refine wp_iconst (v := 0) dX4_makesPairWith_36 (by decide) ?_
      exact wp_iret (ty := .boolean) dX4_makesPairWith_37 rfl rfl h
    · replace h := h.2 c6
      refine wp_aload_n dX4_makesPairWith_24 rfl rfl ?_
      refine wp_iconst (v := 0) dX4_makesPairWith_25 (by decide) ?_
      refine wp_callVI (a := o1) (d1 := 2) (As := [.int 0]) (st := []) dX4_makesPairWith_26 hk1 cm_X4_goesOn m_2_86 (by decide) rfl (Nat.le_of_ble_eq_true rfl) rfl h ?_
      intro r8 M7 h
      refine wp_if_eq (tgt := 36) dX4_makesPairWith_29 (by decide) (fun c9 => ?_) (fun c9 => ?_)
      · replace h := h.1 c9
        refine wp_iconst (v := 0) dX4_makesPairWith_36 (by decide) ?_
        exact wp_iret (ty := .boolean) dX4_makesPairWith_37 rfl rfl h
      · replace h := h.2 c9
        refine wp_iconst (v := 1) dX4_makesPairWith_32 (by decide) ?_
        refine wp_goto (tgt := 37) dX4_makesPairWith_33 (by decide) ?_
        exact wp_iret (ty := .boolean) dX4_makesPairWith_37 rfl rfl h
  · replace h := h.2 c3
    refine wp_aload_n dX4_makesPairWith_8 rfl rfl ?_
    refine wp_iconst (v := 1) dX4_makesPairWith_9 (by decide) ?_
    refine wp_callVI (a := o1) (d1 := 2) (As := [.int 1]) (st := []) dX4_makesPairWith_10 hk1 cm_X4_goesOn m_2_86 (by decide) rfl (Nat.le_of_ble_eq_true rfl) rfl h ?_
    intro r11 M10 h
    refine wp_if_ne (tgt := 32) dX4_makesPairWith_13 (by decide) (fun c12 => ?_) (fun c12 => ?_)
    · replace h := h.2 c12
      refine wp_iconst (v := 1) dX4_makesPairWith_32 (by decide) ?_
      refine wp_goto (tgt := 37) dX4_makesPairWith_33 (by decide) ?_
      exact wp_iret (ty := .boolean) dX4_makesPairWith_37 rfl rfl h
    · replace h := h.1 c12
      refine wp_aload_n dX4_makesPairWith_16 rfl rfl ?_
      refine wp_iconst (v := 1) dX4_makesPairWith_17 (by decide) ?_
      refine wp_callVI (a := th) (d1 := 2) (As := [.int 1]) (st := []) dX4_makesPairWith_18 hth cm_X4_goesOn m_2_86 (by decide) rfl (Nat.le_of_ble_eq_true rfl) rfl h ?_
      intro r14 M13 h
      refine wp_if_eq (tgt := 36) dX4_makesPairWith_21 (by decide) (fun c15 => ?_) (fun c15 => ?_)
      · replace h := h.1 c15
        refine wp_iconst (v := 0) dX4_makesPairWith_36 (by decide) ?_
        exact wp_iret (ty := .boolean) dX4_makesPairWith_37 rfl rfl h
      · replace h := h.2 c15
        refine wp_aload_n dX4_makesPairWith_24 rfl rfl ?_
        refine wp_iconst (v := 0) dX4_makesPairWith_25 (by decide) ?_
        refine wp_callVI (a := o1) (d1 := 2) (As := [.int 0]) (st := []) dX4_makesPairWith_26 hk1 cm_X4_goesOn m_2_86 (by decide) rfl (Nat.le_of_ble_eq_true rfl) rfl h ?_
        intro r17 M16 h
        refine wp_if_eq (tgt := 36) dX4_makesPairWith_29 (by decide) (fun c18 => ?_) (fun c18 => ?_)
        · replace h := h.1 c18
          refine wp_iconst (v := 0) dX4_makesPairWith_36 (by decide) ?_
          exact wp_iret (ty := .boolean) dX4_makesPairWith_37 rfl rfl h
        · replace h := h.2 c18
          refine wp_iconst (v := 1) dX4_makesPairWith_32 (by decide) ?_
          refine wp_goto (tgt := 37) dX4_makesPairWith_33 (by decide) ?_
          exact wp_iret (ty := .boolean) dX4_makesPairWith_37 rfl rfl h
abbrev C_X4_goodWith (G : Glob) (th : Nat) (o1 : Nat) (M : Mem) (Q : Option Value → Mem → Prop) : Prop := WpM G 4 Y_X4_goodWith [.ref (ad G th), .ref (ad G o1)] M Q
set_option maxRecDepth 20000 in
theorem v_X4_goodWith {G : Glob} {th : Nat} {o1 : Nat} {M : Mem} {Q : Option Value → Mem → Prop} (hth : kd th = 4) (hk1 : kd o1 = 4) (h : (WpM G 3 Y_X4_makesPairWith [.ref (ad G th), .ref (ad G o1)] M (RI (fun r2 M1 => ((r2 = 0 → Q (some (.int (-9 : Int32))) M1) ∧ (¬ r2 = 0 → (WpM G 2 Y_X4_warmth [.ref (ad G th)] M1 (RI (fun r5 M4 => (WpM G 2 Y_X4_warmth [.ref (ad G o1)] M4 (RI (fun r7 M6 => (((M6.1 th 0) = 5 → Q (some (.int (r5 + r7))) M6) ∧ (¬ (M6.1 th 0) = 5 → (((M6.1 o1 0) = 5 → Q (some (.int (r5 + r7))) M6) ∧ (¬ (M6.1 o1 0) = 5 → Q (some (.int (if 0 < ((r5 + r7) - ((2 : Int32) * (if (0 : Int32) ≤ ((M6.1 th 1) - (M6.1 o1 1)) then ((M6.1 th 1) - (M6.1 o1 1)) else (0 : Int32) - ((M6.1 th 1) - (M6.1 o1 1))))) then ((r5 + r7) - ((2 : Int32) * (if (0 : Int32) ≤ ((M6.1 th 1) - (M6.1 o1 1)) then ((M6.1 th 1) - (M6.1 o1 1)) else (0 : Int32) - ((M6.1 th 1) - (M6.1 o1 1))))) else 0))) M6)))))))))))))))) : C_X4_goodWith G th o1 M Q := by
  refine wp_enter (ls0 := [some (.ref (ad G th)), some (.ref (ad G o1)), none]) (by decide +kernel) (Nat.le_of_ble_eq_true rfl) rfl ?_
  refine wp_aload_n dX4_goodWith_0 rfl rfl ?_
  refine wp_aload_n dX4_goodWith_1 rfl rfl ?_
  refine wp_callVI (a := th) (d1 := 3) (As := [.ref (ad G o1)]) (st := []) dX4_goodWith_2 hth cm_X4_makesPairWith m_2_82 (by decide) rfl (Nat.le_of_ble_eq_true rfl) rfl h ?_
  intro r2 M1 h
  refine wp_if_ne (tgt := 11) dX4_goodWith_5 (by decide) (fun c3 => ?_) (fun c3 => ?_)
  · replace h := h.2 c3
    refine wp_aload_n dX4_goodWith_11 rfl rfl ?_
    refine wp_callVI (a := th) (d1 := 2) (As := []) (st := []) dX4_goodWith_12 hth cm_X4_warmth m_2_94 (by decide) rfl (Nat.le_of_ble_eq_true rfl) rfl h ?_
    intro r5 M4 h
    refine wp_aload_n dX4_goodWith_15 rfl rfl ?_
    refine wp_callVI (a := o1) (d1 := 2) (As := []) (st := [.int r5]) dX4_goodWith_16 hk1 cm_X4_warmth m_2_94 (by decide) rfl (Nat.le_of_ble_eq_true rfl) rfl h ?_
    intro r7 M6 h
    refine wp_iadd dX4_goodWith_19 ?_
    refine wp_istore_n (ls' := [some (.ref (ad G th)), some (.ref (ad G o1)), some (.int (r5 + r7))]) dX4_goodWith_20 rfl (by decide) rfl rfl ?_
    refine wp_aload_n dX4_goodWith_21 rfl rfl ?_
    refine wp_getI dX4_goodWith_22 hth fb_4_0 m_1_108 ?_
    refine wp_iconst (v := 5) dX4_goodWith_25 (by decide) ?_
    refine wp_icmp_eq (tgt := 37) dX4_goodWith_26 (by decide) (fun c8 => ?_) (fun c8 => ?_)
    · replace h := h.1 c8
      refine wp_iload_n dX4_goodWith_37 rfl rfl ?_
      exact wp_iret (ty := .int) dX4_goodWith_38 rfl rfl h
    · replace h := h.2 c8
      refine wp_aload_n dX4_goodWith_29 rfl rfl ?_
      refine wp_getI dX4_goodWith_30 hk1 fb_4_0 m_1_108 ?_
      refine wp_iconst (v := 5) dX4_goodWith_33 (by decide) ?_
      refine wp_icmp_ne (tgt := 39) dX4_goodWith_34 (by decide) (fun c9 => ?_) (fun c9 => ?_)
      · replace h := h.2 c9
        refine wp_iconst (v := 0) dX4_goodWith_39 (by decide) ?_
        refine wp_iload_n dX4_goodWith_40 rfl rfl ?_
        refine wp_iconst (v := 2) dX4_goodWith_41 (by decide) ?_
        refine wp_aload_n dX4_goodWith_42 rfl rfl ?_
        refine wp_getI dX4_goodWith_43 hth fb_4_1 m_1_113 ?_
        refine wp_aload_n dX4_goodWith_46 rfl rfl ?_
        refine wp_getI dX4_goodWith_47 hk1 fb_4_1 m_1_113 ?_
        refine wp_isub dX4_goodWith_50 ?_
        refine wp_abs m_2_103 (by decide) mw_abs (Nat.le_of_ble_eq_true rfl) dX4_goodWith_51 ?_
        refine wp_imul dX4_goodWith_54 ?_
        refine wp_isub dX4_goodWith_55 ?_
        refine wp_max m_2_102 (by decide) mw_max (Nat.le_of_ble_eq_true rfl) dX4_goodWith_56 ?_
        exact wp_iret (ty := .int) dX4_goodWith_59 rfl rfl h
      · replace h := h.1 c9
        refine wp_iload_n dX4_goodWith_37 rfl rfl ?_
        exact wp_iret (ty := .int) dX4_goodWith_38 rfl rfl h
  · replace h := h.1 c3
    refine wp_bipush (v := (-9 : Int32)) dX4_goodWith_8 (by decide) ?_
    exact wp_iret (ty := .int) dX4_goodWith_10 rfl rfl h
abbrev C_X4_tell (G : Glob) (th : Nat) (x1 : Int32) (M : Mem) (Q : Option Value → Mem → Prop) : Prop := WpM G 3 Y_X4_tell [.ref (ad G th), .int x1] M Q
set_option maxRecDepth 20000 in
theorem v_X4_tell {G : Glob} {th : Nat} {x1 : Int32} {M : Mem} {Q : Option Value → Mem → Prop} (hth : kd th = 4) (h : ((x1 = 0 → Q (some (.int (M.1 th 0))) M) ∧ (¬ x1 = 0 → ((x1 = 1 → Q (some (.int (M.1 th 1))) M) ∧ (¬ x1 = 1 → ((x1 = 2 → Q (some (.int (M.1 th 2))) M) ∧ (¬ x1 = 2 → ((x1 = 3 → Q (some (.int (M.1 th 3))) M) ∧ (¬ x1 = 3 → ((x1 = 4 → Q (some (.int (M.1 th 4))) M) ∧ (¬ x1 = 4 → ((x1 = 5 → (WpM G 2 Y_X4_warmth [.ref (ad G th)] M (RI (fun r2 M1 => Q (some (.int r2)) M1)))) ∧ (¬ x1 = 5 → Q (some (.int (M.1 th 5))) M))))))))))))) : C_X4_tell G th x1 M Q := by
  refine wp_enter (ls0 := [some (.ref (ad G th)), some (.int x1)]) (by decide +kernel) (Nat.le_of_ble_eq_true rfl) rfl ?_
  refine wp_iload_n dX4_tell_0 rfl rfl ?_
  rcases Decidable.em (x1 = 0) with n0 | n0
  · replace h := h.1 n0
    refine wp_tswI (tgt := 40) (v := 0) dX4_tell_1 n0 (by decide) (by decide) rfl (by decide) ?_
    refine wp_aload_n dX4_tell_40 rfl rfl ?_
    refine wp_getI dX4_tell_41 hth fb_4_0 m_1_108 ?_
    exact wp_iret (ty := .int) dX4_tell_44 rfl rfl h
  · replace h := h.2 n0
    rcases Decidable.em (x1 = 1) with n1 | n1
    · replace h := h.1 n1
      refine wp_tswI (tgt := 45) (v := 1) dX4_tell_1 n1 (by decide) (by decide) rfl (by decide) ?_
      refine wp_aload_n dX4_tell_45 rfl rfl ?_
      refine wp_getI dX4_tell_46 hth fb_4_1 m_1_113 ?_
      exact wp_iret (ty := .int) dX4_tell_49 rfl rfl h
    · replace h := h.2 n1
      rcases Decidable.em (x1 = 2) with n2 | n2
      · replace h := h.1 n2
        refine wp_tswI (tgt := 50) (v := 2) dX4_tell_1 n2 (by decide) (by decide) rfl (by decide) ?_
        refine wp_aload_n dX4_tell_50 rfl rfl ?_
        refine wp_getI dX4_tell_51 hth fb_4_2 m_1_116 ?_
        exact wp_iret (ty := .int) dX4_tell_54 rfl rfl h
      · replace h := h.2 n2
        rcases Decidable.em (x1 = 3) with n3 | n3
        · replace h := h.1 n3
          refine wp_tswI (tgt := 55) (v := 3) dX4_tell_1 n3 (by decide) (by decide) rfl (by decide) ?_
          refine wp_aload_n dX4_tell_55 rfl rfl ?_
          refine wp_getI dX4_tell_56 hth fb_4_3 m_1_120 ?_
          exact wp_iret (ty := .int) dX4_tell_59 rfl rfl h
        · replace h := h.2 n3
          rcases Decidable.em (x1 = 4) with n4 | n4
          · replace h := h.1 n4
            refine wp_tswI (tgt := 60) (v := 4) dX4_tell_1 n4 (by decide) (by decide) rfl (by decide) ?_
            refine wp_aload_n dX4_tell_60 rfl rfl ?_
            refine wp_getI dX4_tell_61 hth fb_4_4 m_1_122 ?_
            exact wp_iret (ty := .int) dX4_tell_64 rfl rfl h
          · replace h := h.2 n4
            rcases Decidable.em (x1 = 5) with n5 | n5
            · replace h := h.1 n5
              refine wp_tswI (tgt := 65) (v := 5) dX4_tell_1 n5 (by decide) (by decide) rfl (by decide) ?_
              refine wp_aload_n dX4_tell_65 rfl rfl ?_
              refine wp_callVI (a := th) (d1 := 2) (As := []) (st := []) dX4_tell_66 hth cm_X4_warmth m_2_94 (by decide) rfl (Nat.le_of_ble_eq_true rfl) rfl h ?_
              intro r2 M1 h
              exact wp_iret (ty := .int) dX4_tell_69 rfl rfl h
            · replace h := h.2 n5
              refine wp_tswD (tgt := 70) dX4_tell_1 (by have e0 : (x1 : Int32).toInt ≠ 0 := fun e => n0 (Int32.toInt_inj.mp e); have e1 : (x1 : Int32).toInt ≠ 1 := fun e => n1 (Int32.toInt_inj.mp e); have e2 : (x1 : Int32).toInt ≠ 2 := fun e => n2 (Int32.toInt_inj.mp e); have e3 : (x1 : Int32).toInt ≠ 3 := fun e => n3 (Int32.toInt_inj.mp e); have e4 : (x1 : Int32).toInt ≠ 4 := fun e => n4 (Int32.toInt_inj.mp e); have e5 : (x1 : Int32).toInt ≠ 5 := fun e => n5 (Int32.toInt_inj.mp e); omega) (by decide) ?_
              refine wp_aload_n dX4_tell_70 rfl rfl ?_
              refine wp_getI dX4_tell_71 hth fb_4_5 m_1_126 ?_
              exact wp_iret (ty := .int) dX4_tell_74 rfl rfl h
