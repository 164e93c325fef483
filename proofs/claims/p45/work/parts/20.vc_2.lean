abbrev C_X2_roomLeft (G : Glob) (th : Nat) (M : Mem) (Q : Option Value → Mem → Prop) : Prop := WpM G 1 Y_X2_roomLeft [.ref (ad G th)] M Q
set_option maxRecDepth 20000 in
theorem v_X2_roomLeft {G : Glob} {th : Nat} {M : Mem} {Q : Option Value → Mem → Prop} (hth : kd th = 2) (h : Q (some (.int ((40 : Int32) - (M.1 th 1)))) M) : C_X2_roomLeft G th M Q := by
  refine wp_enter (ls0 := [some (.ref (ad G th))]) (by decide +kernel) (Nat.le_of_ble_eq_true rfl) rfl ?_
  refine wp_bipush (v := 40) dX2_roomLeft_0 (by decide) ?_
  refine wp_aload_n dX2_roomLeft_2 rfl rfl ?_
  refine wp_getI dX2_roomLeft_3 hth fb_2_1 m_1_96 ?_
  refine wp_isub dX2_roomLeft_6 ?_
  exact wp_iret (ty := .int) dX2_roomLeft_7 rfl rfl h
abbrev C_X2_add (G : Glob) (th : Nat) (x1 : Int32) (x2 : Int32) (x3 : Int32) (M : Mem) (Q : Option Value → Mem → Prop) : Prop := WpM G 1 Y_X2_add [.ref (ad G th), .int x1, .int x2, .int x3] M Q
set_option maxRecDepth 20000 in
theorem v_X2_add {G : Glob} {th : Nat} {x1 : Int32} {x2 : Int32} {x3 : Int32} {M : Mem} {Q : Option Value → Mem → Prop} (hth : kd th = 2) (h : (((M.1 th 1) < 0 → Q none M) ∧ (¬ (M.1 th 1) < 0 → (((M.1 th 1) < 40 → (vp_in (M.1 th 1) (ln (rf th 0)) ∧ (∀ M4 : Mem, M4 = upI M (rf th 0) ((M.1 th 1).toNatClampNeg) ((((100 : Int32) * x1) + ((10 : Int32) * x2)) + x3) → (∀ M5 : Mem, M5 = upI M4 th 1 ((M4.1 th 1) + 1) → Q none M5)))) ∧ (¬ (M.1 th 1) < 40 → Q none M))))) : C_X2_add G th x1 x2 x3 M Q := by
  refine wp_enter (ls0 := [some (.ref (ad G th)), some (.int x1), some (.int x2), some (.int x3)]) (by decide +kernel) (Nat.le_of_ble_eq_true rfl) rfl ?_
  refine wp_aload_n dX2_add_0 rfl rfl ?_
  refine wp_getI dX2_add_1 hth fb_2_1 m_1_96 ?_
  refine wp_if_lt (tgt := 16) dX2_add_4 (by decide) (fun c1 => ?_) (fun c1 => ?_)
  · replace h := h.1 c1
    exact wp_vret dX2_add_16 rfl h
  · replace h := h.2 c1
    refine wp_aload_n dX2_add_7 rfl rfl ?_
    refine wp_getI dX2_add_8 hth fb_2_1 m_1_96 ?_
    refine wp_bipush (v := 40) dX2_add_11 (by decide) ?_
    refine wp_icmp_lt (tgt := 17) dX2_add_13 (by decide) (fun c2 => ?_) (fun c2 => ?_)
    · replace h := h.1 c2
      refine wp_aload_n dX2_add_17 rfl rfl ?_
      refine wp_getR (b := rf th 0) dX2_add_18 hth rfl fb_2_0 m_1_93 ?_
      refine wp_aload_n dX2_add_21 rfl rfl ?_
      refine wp_getI dX2_add_22 hth fb_2_1 m_1_96 ?_
      refine wp_bipush (v := 100) dX2_add_25 (by decide) ?_
      refine wp_iload_n dX2_add_27 rfl rfl ?_
      refine wp_imul dX2_add_28 ?_
      refine wp_bipush (v := 10) dX2_add_29 (by decide) ?_
      refine wp_iload_n dX2_add_31 rfl rfl ?_
      refine wp_imul dX2_add_32 ?_
      refine wp_iadd dX2_add_33 ?_
      refine wp_iload_n dX2_add_34 rfl rfl ?_
      refine wp_iadd dX2_add_35 ?_
      obtain ⟨b3, h⟩ := h
      refine wp_iast (n := ln (rf th 0)) dX2_add_36 (kdf_2_0 hth) rfl b3 ?_
      refine wp_topM (fun M4 hM4 => ?_)
      replace h := h M4 hM4
      refine wp_aload_n dX2_add_37 rfl rfl ?_
      refine wp_dup dX2_add_38 rfl ?_
      refine wp_getI dX2_add_39 hth fb_2_1 m_1_96 ?_
      refine wp_iconst (v := 1) dX2_add_42 (by decide) ?_
      refine wp_iadd dX2_add_43 ?_
      refine wp_putI dX2_add_44 hth fp_2_1 m_1_96 ?_
      refine wp_topM (fun M5 hM5 => ?_)
      replace h := h M5 hM5
      exact wp_vret dX2_add_47 rfl h
    · replace h := h.2 c2
      exact wp_vret dX2_add_16 rfl h
abbrev P_X2_becomeLike_10 (G : Glob) (th : Nat) (o1 : Nat) (x2 : Int32) (M : Mem) (Q : Option Value → Mem → Prop) : Prop := Wp G 1 Y_X2_becomeLike 10 [some (.ref (ad G th)), some (.ref (ad G o1)), some (.int x2)] [] M Q
set_option maxRecDepth 20000 in
theorem v_X2_becomeLike_10 {G : Glob} {th : Nat} {o1 : Nat} {x2 : Int32} {M : Mem} {Q : Option Value → Mem → Prop} (hth : kd th = 2) (hk1 : kd o1 = 2) (h : ((x2 < 40 → (vp_in x2 (ln (rf o1 0)) ∧ (vp_in x2 (ln (rf th 0)) ∧ (∀ M4 : Mem, M4 = upI M (rf th 0) (x2.toNatClampNeg) (M.1 (rf o1 0) x2.toNatClampNeg) → P_X2_becomeLike_10 G th o1 (x2 + 1) M4 Q)))) ∧ (¬ x2 < 40 → Q none M))) : P_X2_becomeLike_10 G th o1 x2 M Q := by
  refine wp_iload_n dX2_becomeLike_10 rfl rfl ?_
  refine wp_bipush (v := 40) dX2_becomeLike_11 (by decide) ?_
  refine wp_icmp_ge (tgt := 34) dX2_becomeLike_13 (by decide) (fun c1 => ?_) (fun c1 => ?_)
  · replace h := h.2 c1
    exact wp_vret dX2_becomeLike_34 rfl h
  · replace h := h.1 c1
    refine wp_aload_n dX2_becomeLike_16 rfl rfl ?_
    refine wp_getR (b := rf th 0) dX2_becomeLike_17 hth rfl fb_2_0 m_1_93 ?_
    refine wp_iload_n dX2_becomeLike_20 rfl rfl ?_
    refine wp_aload_n dX2_becomeLike_21 rfl rfl ?_
    refine wp_getR (b := rf o1 0) dX2_becomeLike_22 hk1 rfl fb_2_0 m_1_93 ?_
    refine wp_iload_n dX2_becomeLike_25 rfl rfl ?_
    obtain ⟨b2, h⟩ := h
    refine wp_iald (n := ln (rf o1 0)) dX2_becomeLike_26 (kdf_2_0 hk1) rfl b2 ?_
    obtain ⟨b3, h⟩ := h
    refine wp_iast (n := ln (rf th 0)) dX2_becomeLike_27 (kdf_2_0 hth) rfl b3 ?_
    refine wp_topM (fun M4 hM4 => ?_)
    replace h := h M4 hM4
    refine wp_iinc (v := (x2 + 1)) (ls' := [some (.ref (ad G th)), some (.ref (ad G o1)), some (.int (x2 + 1))]) dX2_becomeLike_28 rfl rfl (by decide) rfl rfl ?_
    refine wp_goto (tgt := 10) dX2_becomeLike_31 (by decide) ?_
    exact h
abbrev C_X2_becomeLike (G : Glob) (th : Nat) (o1 : Nat) (M : Mem) (Q : Option Value → Mem → Prop) : Prop := WpM G 1 Y_X2_becomeLike [.ref (ad G th), .ref (ad G o1)] M Q
set_option maxRecDepth 20000 in
theorem v_X2_becomeLike {G : Glob} {th : Nat} {o1 : Nat} {M : Mem} {Q : Option Value → Mem → Prop} (hth : kd th = 2) (hk1 : kd o1 = 2) (h : (∀ M1 : Mem, M1 = upI M th 1 (M.1 o1 1) → P_X2_becomeLike_10 G th o1 0 M1 Q)) : C_X2_becomeLike G th o1 M Q := by
  refine wp_enter (ls0 := [some (.ref (ad G th)), some (.ref (ad G o1)), none]) (by decide +kernel) (Nat.le_of_ble_eq_true rfl) rfl ?_
  refine wp_aload_n dX2_becomeLike_0 rfl rfl ?_
  refine wp_aload_n dX2_becomeLike_1 rfl rfl ?_
  refine wp_getI dX2_becomeLike_2 hk1 fb_2_1 m_1_96 ?_
  refine wp_putI dX2_becomeLike_5 hth fp_2_1 m_1_96 ?_
  refine wp_topM (fun M1 hM1 => ?_)
  replace h := h M1 hM1
  refine wp_iconst (v := 0) dX2_becomeLike_8 (by decide) ?_
  refine wp_istore_n (ls' := [some (.ref (ad G th)), some (.ref (ad G o1)), some (.int 0)]) dX2_becomeLike_9 rfl (by decide) rfl rfl ?_
  exact h
