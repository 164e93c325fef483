abbrev C_X9_isNumber (G : Glob) (th : Nat) (x1 : Int32) (M : Mem) (Q : Option Value → Mem → Prop) : Prop := WpM G 1 Y_X9_isNumber [.ref (ad G th), .int x1] M Q
set_option maxRecDepth 20000 in
theorem v_X9_isNumber {G : Glob} {th : Nat} {x1 : Int32} {M : Mem} {Q : Option Value → Mem → Prop} (hth : kd th = 9) (h : ((x1 < 0 → Q (some (.int 0)) M) ∧ (¬ x1 < 0 → ((x1 < (Int32.ofNat (ln (rf th 1))) → Q (some (.int 1)) M) ∧ (¬ x1 < (Int32.ofNat (ln (rf th 1))) → Q (some (.int 0)) M))))) : C_X9_isNumber G th x1 M Q := by
  refine wp_enter (ls0 := [some (.ref (ad G th)), some (.int x1)]) (by decide +kernel) (Nat.le_of_ble_eq_true rfl) rfl ?_
  refine wp_iload_n dX9_isNumber_0 rfl rfl ?_
  refine wp_if_lt (tgt := 17) dX9_isNumber_1 (by decide) (fun c1 => ?_) (fun c1 => ?_)
  · replace h := h.1 c1
    refine wp_iconst (v := 0) dX9_isNumber_17 (by decide) ?_
    exact wp_iret (ty := .boolean) dX9_isNumber_18 rfl rfl h
  · replace h := h.2 c1
    refine wp_iload_n dX9_isNumber_4 rfl rfl ?_
    refine wp_aload_n dX9_isNumber_5 rfl rfl ?_
    refine wp_getR (b := rf th 1) dX9_isNumber_6 hth rfl fb_9_1 m_1_35 ?_
    refine wp_alen (v := (Int32.ofNat (ln (rf th 1)))) dX9_isNumber_9 (kdf_9_1 hth) (by decide) rfl ?_
    refine wp_icmp_ge (tgt := 17) dX9_isNumber_10 (by decide) (fun c2 => ?_) (fun c2 => ?_)
    · replace h := h.2 c2
      refine wp_iconst (v := 0) dX9_isNumber_17 (by decide) ?_
      exact wp_iret (ty := .boolean) dX9_isNumber_18 rfl rfl h
    · replace h := h.1 c2
      refine wp_iconst (v := 1) dX9_isNumber_13 (by decide) ?_
      refine wp_goto (tgt := 18) dX9_isNumber_14 (by decide) ?_
      exact wp_iret (ty := .boolean) dX9_isNumber_18 rfl rfl h
abbrev C_X9_sizeOf (G : Glob) (th : Nat) (x1 : Int32) (M : Mem) (Q : Option Value → Mem → Prop) : Prop := WpM G 2 Y_X9_sizeOf [.ref (ad G th), .int x1] M Q
set_option maxRecDepth 20000 in
theorem v_X9_sizeOf {G : Glob} {th : Nat} {x1 : Int32} {M : Mem} {Q : Option Value → Mem → Prop} (hth : kd th = 9) (h : (WpM G 1 Y_X9_isNumber [.ref (ad G th), .int x1] M (RI (fun r2 M1 => ((r2 = 0 → Q (some (.int (-1 : Int32))) M1) ∧ (¬ r2 = 0 → (vp_in x1 (ln (rf th 1)) ∧ Q (some (.int (M1.1 (rf th 1) x1.toNatClampNeg))) M1))))))) : C_X9_sizeOf G th x1 M Q := by
  refine wp_enter (ls0 := [some (.ref (ad G th)), some (.int x1)]) (by decide +kernel) (Nat.le_of_ble_eq_true rfl) rfl ?_
  refine wp_aload_n dX9_sizeOf_0 rfl rfl ?_
  refine wp_iload_n dX9_sizeOf_1 rfl rfl ?_
  refine wp_callVI (a := th) (d1 := 1) (As := [.int x1]) (st := []) dX9_sizeOf_2 hth cm_X9_isNumber m_3_19 (by decide) rfl (Nat.le_of_ble_eq_true rfl) rfl h ?_
  intro r2 M1 h
  refine wp_if_eq (tgt := 17) dX9_sizeOf_5 (by decide) (fun c3 => ?_) (fun c3 => ?_)
  · replace h := h.1 c3
    refine wp_iconst (v := (-1 : Int32)) dX9_sizeOf_17 (by decide) ?_
    exact wp_iret (ty := .int) dX9_sizeOf_18 rfl rfl h
  · replace h := h.2 c3
    refine wp_aload_n dX9_sizeOf_8 rfl rfl ?_
    refine wp_getR (b := rf th 1) dX9_sizeOf_9 hth rfl fb_9_1 m_1_35 ?_
    refine wp_iload_n dX9_sizeOf_12 rfl rfl ?_
    obtain ⟨b4, h⟩ := h
    refine wp_iald (n := ln (rf th 1)) dX9_sizeOf_13 (kdf_9_1 hth) rfl b4 ?_
    refine wp_goto (tgt := 18) dX9_sizeOf_14 (by decide) ?_
    exact wp_iret (ty := .int) dX9_sizeOf_18 rfl rfl h
abbrev C_X9_isThere (G : Glob) (th : Nat) (x1 : Int32) (M : Mem) (Q : Option Value → Mem → Prop) : Prop := WpM G 3 Y_X9_isThere [.ref (ad G th), .int x1] M Q
set_option maxRecDepth 20000 in
theorem v_X9_isThere {G : Glob} {th : Nat} {x1 : Int32} {M : Mem} {Q : Option Value → Mem → Prop} (hth : kd th = 9) (h : (WpM G 2 Y_X9_sizeOf [.ref (ad G th), .int x1] M (RI (fun r2 M1 => ((r2 = (-1 : Int32) → Q (some (.int 0)) M1) ∧ (¬ r2 = (-1 : Int32) → Q (some (.int 1)) M1)))))) : C_X9_isThere G th x1 M Q := by
  refine wp_enter (ls0 := [some (.ref (ad G th)), some (.int x1)]) (by decide +kernel) (Nat.le_of_ble_eq_true rfl) rfl ?_
  refine wp_aload_n dX9_isThere_0 rfl rfl ?_
  refine wp_iload_n dX9_isThere_1 rfl rfl ?_
  refine wp_callVI (a := th) (d1 := 2) (As := [.int x1]) (st := []) dX9_isThere_2 hth cm_X9_sizeOf m_3_15 (by decide) rfl (Nat.le_of_ble_eq_true rfl) rfl h ?_
  intro r2 M1 h
  refine wp_iconst (v := (-1 : Int32)) dX9_isThere_5 (by decide) ?_
  refine wp_icmp_eq (tgt := 13) dX9_isThere_6 (by decide) (fun c3 => ?_) (fun c3 => ?_)
  · replace h := h.1 c3
    refine wp_iconst (v := 0) dX9_isThere_13 (by decide) ?_
    exact wp_iret (ty := .boolean) dX9_isThere_14 rfl rfl h
  · replace h := h.2 c3
    refine wp_iconst (v := 1) dX9_isThere_9 (by decide) ?_
    refine wp_goto (tgt := 14) dX9_isThere_10 (by decide) ?_
    exact wp_iret (ty := .boolean) dX9_isThere_14 rfl rfl h
abbrev C_X9_holds (G : Glob) (th : Nat) (x1 : Int32) (x2 : Int32) (M : Mem) (Q : Option Value → Mem → Prop) : Prop := WpM G 3 Y_X9_holds [.ref (ad G th), .int x1, .int x2] M Q
set_option maxRecDepth 20000 in
theorem v_X9_holds {G : Glob} {th : Nat} {x1 : Int32} {x2 : Int32} {M : Mem} {Q : Option Value → Mem → Prop} (hth : kd th = 9) (h : ((x2 < 0 → Q (some (.int 0)) M) ∧ (¬ x2 < 0 → (WpM G 2 Y_X9_sizeOf [.ref (ad G th), .int x1] M (RI (fun r3 M2 => ((x2 < r3 → Q (some (.int 1)) M2) ∧ (¬ x2 < r3 → Q (some (.int 0)) M2)))))))) : C_X9_holds G th x1 x2 M Q := by
  refine wp_enter (ls0 := [some (.ref (ad G th)), some (.int x1), some (.int x2)]) (by decide +kernel) (Nat.le_of_ble_eq_true rfl) rfl ?_
  refine wp_iload_n dX9_holds_0 rfl rfl ?_
  refine wp_if_lt (tgt := 17) dX9_holds_1 (by decide) (fun c1 => ?_) (fun c1 => ?_)
  · replace h := h.1 c1
    refine wp_iconst (v := 0) dX9_holds_17 (by decide) ?_
    exact wp_iret (ty := .boolean) dX9_holds_18 rfl rfl h
  · replace h := h.2 c1
    refine wp_iload_n dX9_holds_4 rfl rfl ?_
    refine wp_aload_n dX9_holds_5 rfl rfl ?_
    refine wp_iload_n dX9_holds_6 rfl rfl ?_
    refine wp_callVI (a := th) (d1 := 2) (As := [.int x1]) (st := [.int x2]) dX9_holds_7 hth cm_X9_sizeOf m_3_15 (by decide) rfl (Nat.le_of_ble_eq_true rfl) rfl h ?_
    intro r3 M2 h
    refine wp_icmp_ge (tgt := 17) dX9_holds_10 (by decide) (fun c4 => ?_) (fun c4 => ?_)
    · replace h := h.2 c4
      refine wp_iconst (v := 0) dX9_holds_17 (by decide) ?_
      exact wp_iret (ty := .boolean) dX9_holds_18 rfl rfl h
    · replace h := h.1 c4
      refine wp_iconst (v := 1) dX9_holds_13 (by decide) ?_
      refine wp_goto (tgt := 18) dX9_holds_14 (by decide) ?_
      exact wp_iret (ty := .boolean) dX9_holds_18 rfl rfl h
abbrev C_X9_reaches (G : Glob) (th : Nat) (x1 : Int32) (x2 : Int32) (x3 : Int32) (M : Mem) (Q : Option Value → Mem → Prop) : Prop := WpM G 3 Y_X9_reaches [.ref (ad G th), .int x1, .int x2, .int x3] M Q
set_option maxRecDepth 20000 in
theorem v_X9_reaches {G : Glob} {th : Nat} {x1 : Int32} {x2 : Int32} {x3 : Int32} {M : Mem} {Q : Option Value → Mem → Prop} (hth : kd th = 9) (h : (WpM G 2 Y_X9_sizeOf [.ref (ad G th), .int x1] M (RI (fun r2 M1 => ((x2 < 0 → Q (some (.int 0)) M1) ∧ (¬ x2 < 0 → ((r2 < x2 → Q (some (.int 0)) M1) ∧ (¬ r2 < x2 → ((x3 < 0 → Q (some (.int 0)) M1) ∧ (¬ x3 < 0 → (((r2 - x2) < x3 → Q (some (.int 0)) M1) ∧ (¬ (r2 - x2) < x3 → Q (some (.int 1)) M1)))))))))))) : C_X9_reaches G th x1 x2 x3 M Q := by
  refine wp_enter (ls0 := [some (.ref (ad G th)), some (.int x1), some (.int x2), some (.int x3), none]) (by decide +kernel) (Nat.le_of_ble_eq_true rfl) rfl ?_
  refine wp_aload_n dX9_reaches_0 rfl rfl ?_
  refine wp_iload_n dX9_reaches_1 rfl rfl ?_
  refine wp_callVI (a := th) (d1 := 2) (As := [.int x1]) (st := []) dX9_reaches_2 hth cm_X9_sizeOf m_3_15 (by decide) rfl (Nat.le_of_ble_eq_true rfl) rfl h ?_
  intro r2 M1 h
  refine wp_istore (ls' := [some (.ref (ad G th)), some (.int x1), some (.int x2), some (.int x3), some (.int r2)]) dX9_reaches_5 (by decide) rfl rfl ?_
  refine wp_iload_n dX9_reaches_7 rfl rfl ?_
  refine wp_if_lt (tgt := 33) dX9_reaches_8 (by decide) (fun c3 => ?_) (fun c3 => ?_)
  · replace h := h.1 c3
    refine wp_iconst (v := 0) dX9_reaches_33 (by decide) ?_
    exact wp_iret (ty := .boolean) dX9_reaches_34 rfl rfl h
  · replace h := h.2 c3
    refine wp_iload_n dX9_reaches_11 rfl rfl ?_
    refine wp_iload dX9_reaches_12 rfl ?_
    refine wp_icmp_gt (tgt := 33) dX9_reaches_14 (by decide) (fun c4 => ?_) (fun c4 => ?_)
    · replace h := h.1 c4
      refine wp_iconst (v := 0) dX9_reaches_33 (by decide) ?_
      exact wp_iret (ty := .boolean) dX9_reaches_34 rfl rfl h
    · replace h := h.2 c4
      refine wp_iload_n dX9_reaches_17 rfl rfl ?_
      refine wp_if_lt (tgt := 33) dX9_reaches_18 (by decide) (fun c5 => ?_) (fun c5 => ?_)
      · replace h := h.1 c5
        refine wp_iconst (v := 0) dX9_reaches_33 (by decide) ?_
        exact wp_iret (ty := .boolean) dX9_reaches_34 rfl rfl h
      · replace h := h.2 c5
        refine wp_iload_n dX9_reaches_21 rfl rfl ?_
        refine wp_iload dX9_reaches_22 rfl ?_
        refine wp_iload_n dX9_reaches_24 rfl rfl ?_
        refine wp_isub dX9_reaches_25 ?_
        refine wp_icmp_gt (tgt := 33) dX9_reaches_26 (by decide) (fun c6 => ?_) (fun c6 => ?_)
        · replace h := h.1 c6
          refine wp_iconst (v := 0) dX9_reaches_33 (by decide) ?_
          exact wp_iret (ty := .boolean) dX9_reaches_34 rfl rfl h
        · replace h := h.2 c6
          refine wp_iconst (v := 1) dX9_reaches_29 (by decide) ?_
          refine wp_goto (tgt := 34) dX9_reaches_30 (by decide) ?_
          exact wp_iret (ty := .boolean) dX9_reaches_34 rfl rfl h
abbrev P_X9_begin_30 (G : Glob) (th : Nat) (x1 : Int32) (x2 : Int32) (x3 : Int32) (M : Mem) (Q : Option Value → Mem → Prop) : Prop := Wp G 2 Y_X9_begin 30 [some (.ref (ad G th)), some (.int x1), some (.int x2), some (.int x3)] [] M Q
set_option maxRecDepth 20000 in
theorem v_X9_begin_30 {G : Glob} {th : Nat} {x1 : Int32} {x2 : Int32} {x3 : Int32} {M : Mem} {Q : Option Value → Mem → Prop} (hth : kd th = 9) (h : ((x3 < x2 → (vp_in x1 (ln (rf th 0)) ∧ (vp_in x3 (ln (rf (rf th 0) x1.toNatClampNeg)) ∧ (∀ M4 : Mem, M4 = upI M (rf (rf th 0) x1.toNatClampNeg) (x3.toNatClampNeg) (M.1 th 3) → P_X9_begin_30 G th x1 x2 (x3 + 1) M4 Q)))) ∧ (¬ x3 < x2 → Q none M))) : P_X9_begin_30 G th x1 x2 x3 M Q := by
  refine wp_iload_n dX9_begin_30 rfl rfl ?_
  refine wp_iload_n dX9_begin_31 rfl rfl ?_
  refine wp_icmp_ge (tgt := 53) dX9_begin_32 (by decide) (fun c1 => ?_) (fun c1 => ?_)
  · replace h := h.2 c1
    exact wp_vret dX9_begin_53 rfl h
  · replace h := h.1 c1
    refine wp_aload_n dX9_begin_35 rfl rfl ?_
    refine wp_getR (b := rf th 0) dX9_begin_36 hth rfl fb_9_0 m_1_34 ?_
    refine wp_iload_n dX9_begin_39 rfl rfl ?_
    obtain ⟨b2, h⟩ := h
    refine wp_aald (b := (rf (rf th 0) x1.toNatClampNeg)) (n := ln (rf th 0)) dX9_begin_40 (kdf_9_0 hth) (by decide) rfl b2 rfl ?_
    have kb2 : kd (rf (rf th 0) x1.toNatClampNeg) = 20 := (kda_24 (kdf_9_0 hth) (vp_lt b2))
    refine wp_iload_n dX9_begin_41 rfl rfl ?_
    refine wp_aload_n dX9_begin_42 rfl rfl ?_
    refine wp_getI dX9_begin_43 hth fb_9_3 m_1_37 ?_
    obtain ⟨b3, h⟩ := h
    refine wp_iast (n := ln (rf (rf th 0) x1.toNatClampNeg)) dX9_begin_46 kb2 rfl b3 ?_
    refine wp_topM (fun M4 hM4 => ?_)
    replace h := h M4 hM4
    refine wp_iinc (v := (x3 + 1)) (ls' := [some (.ref (ad G th)), some (.int x1), some (.int x2), some (.int (x3 + 1))]) dX9_begin_47 rfl rfl (by decide) rfl rfl ?_
    refine wp_goto (tgt := 30) dX9_begin_50 (by decide) ?_
    exact h
abbrev C_X9_begin (G : Glob) (th : Nat) (x1 : Int32) (x2 : Int32) (M : Mem) (Q : Option Value → Mem → Prop) : Prop := WpM G 2 Y_X9_begin [.ref (ad G th), .int x1, .int x2] M Q
set_option maxRecDepth 20000 in
theorem v_X9_begin {G : Glob} {th : Nat} {x1 : Int32} {x2 : Int32} {M : Mem} {Q : Option Value → Mem → Prop} (hth : kd th = 9) (h : (WpM G 1 Y_X9_isNumber [.ref (ad G th), .int x1] M (RI (fun r2 M1 => ((r2 = 0 → Q none M1) ∧ (¬ r2 = 0 → ((x2 < 0 → Q none M1) ∧ (¬ x2 < 0 → (((M1.1 th 2) < x2 → Q none M1) ∧ (¬ (M1.1 th 2) < x2 → (vp_in x1 (ln (rf th 1)) ∧ (∀ M7 : Mem, M7 = upI M1 (rf th 1) (x1.toNatClampNeg) x2 → P_X9_begin_30 G th x1 x2 0 M7 Q)))))))))))) : C_X9_begin G th x1 x2 M Q := by
  refine wp_enter (ls0 := [some (.ref (ad G th)), some (.int x1), some (.int x2), none]) (by decide +kernel) (Nat.le_of_ble_eq_true rfl) rfl ?_
  refine wp_aload_n dX9_begin_0 rfl rfl ?_
  refine wp_iload_n dX9_begin_1 rfl rfl ?_
  refine wp_callVI (a := th) (d1 := 1) (As := [.int x1]) (st := []) dX9_begin_2 hth cm_X9_isNumber m_3_19 (by decide) rfl (Nat.le_of_ble_eq_true rfl) rfl h ?_
  intro r2 M1 h
  refine wp_if_eq (tgt := 20) dX9_begin_5 (by decide) (fun c3 => ?_) (fun c3 => ?_)
  · replace h := h.1 c3
    exact wp_vret dX9_begin_20 rfl h
  · replace h := h.2 c3
    refine wp_iload_n dX9_begin_8 rfl rfl ?_
    refine wp_if_lt (tgt := 20) dX9_begin_9 (by decide) (fun c4 => ?_) (fun c4 => ?_)
    · replace h := h.1 c4
      exact wp_vret dX9_begin_20 rfl h
    · replace h := h.2 c4
      refine wp_iload_n dX9_begin_12 rfl rfl ?_
      refine wp_aload_n dX9_begin_13 rfl rfl ?_
      refine wp_getI dX9_begin_14 hth fb_9_2 m_1_36 ?_
      refine wp_icmp_le (tgt := 21) dX9_begin_17 (by decide) (fun c5 => ?_) (fun c5 => ?_)
      · replace h := h.2 c5
        refine wp_aload_n dX9_begin_21 rfl rfl ?_
        refine wp_getR (b := rf th 1) dX9_begin_22 hth rfl fb_9_1 m_1_35 ?_
        refine wp_iload_n dX9_begin_25 rfl rfl ?_
        refine wp_iload_n dX9_begin_26 rfl rfl ?_
        obtain ⟨b6, h⟩ := h
        refine wp_iast (n := ln (rf th 1)) dX9_begin_27 (kdf_9_1 hth) rfl b6 ?_
        refine wp_topM (fun M7 hM7 => ?_)
        replace h := h M7 hM7
        refine wp_iconst (v := 0) dX9_begin_28 (by decide) ?_
        refine wp_istore_n (ls' := [some (.ref (ad G th)), some (.int x1), some (.int x2), some (.int 0)]) dX9_begin_29 rfl (by decide) rfl rfl ?_
        exact h
      · replace h := h.1 c5
        exact wp_vret dX9_begin_20 rfl h
abbrev C_X9_drop (G : Glob) (th : Nat) (x1 : Int32) (M : Mem) (Q : Option Value → Mem → Prop) : Prop := WpM G 2 Y_X9_drop [.ref (ad G th), .int x1] M Q
set_option maxRecDepth 20000 in
theorem v_X9_drop {G : Glob} {th : Nat} {x1 : Int32} {M : Mem} {Q : Option Value → Mem → Prop} (hth : kd th = 9) (h : (WpM G 1 Y_X9_isNumber [.ref (ad G th), .int x1] M (RI (fun r2 M1 => ((r2 = 0 → Q none M1) ∧ (¬ r2 = 0 → (vp_in x1 (ln (rf th 1)) ∧ (∀ M5 : Mem, M5 = upI M1 (rf th 1) (x1.toNatClampNeg) (-1 : Int32) → Q none M5)))))))) : C_X9_drop G th x1 M Q := by
  refine wp_enter (ls0 := [some (.ref (ad G th)), some (.int x1)]) (by decide +kernel) (Nat.le_of_ble_eq_true rfl) rfl ?_
  refine wp_aload_n dX9_drop_0 rfl rfl ?_
  refine wp_iload_n dX9_drop_1 rfl rfl ?_
  refine wp_callVI (a := th) (d1 := 1) (As := [.int x1]) (st := []) dX9_drop_2 hth cm_X9_isNumber m_3_19 (by decide) rfl (Nat.le_of_ble_eq_true rfl) rfl h ?_
  intro r2 M1 h
  refine wp_if_eq (tgt := 15) dX9_drop_5 (by decide) (fun c3 => ?_) (fun c3 => ?_)
  · replace h := h.1 c3
    exact wp_vret dX9_drop_15 rfl h
  · replace h := h.2 c3
    refine wp_aload_n dX9_drop_8 rfl rfl ?_
    refine wp_getR (b := rf th 1) dX9_drop_9 hth rfl fb_9_1 m_1_35 ?_
    refine wp_iload_n dX9_drop_12 rfl rfl ?_
    refine wp_iconst (v := (-1 : Int32)) dX9_drop_13 (by decide) ?_
    obtain ⟨b4, h⟩ := h
    refine wp_iast (n := ln (rf th 1)) dX9_drop_14 (kdf_9_1 hth) rfl b4 ?_
    refine wp_topM (fun M5 hM5 => ?_)
    replace h := h M5 hM5
    exact wp_vret dX9_drop_15 rfl h
abbrev C_X9_read (G : Glob) (th : Nat) (x1 : Int32) (x2 : Int32) (M : Mem) (Q : Option Value → Mem → Prop) : Prop := WpM G 4 Y_X9_read [.ref (ad G th), .int x1, .int x2] M Q
set_option maxRecDepth 20000 in
theorem v_X9_read {G : Glob} {th : Nat} {x1 : Int32} {x2 : Int32} {M : Mem} {Q : Option Value → Mem → Prop} (hth : kd th = 9) (h : (WpM G 3 Y_X9_holds [.ref (ad G th), .int x1, .int x2] M (RI (fun r2 M1 => ((r2 = 0 → Q (some (.int 0)) M1) ∧ (¬ r2 = 0 → (vp_in x1 (ln (rf th 0)) ∧ (vp_in x2 (ln (rf (rf th 0) x1.toNatClampNeg)) ∧ Q (some (.int (M1.1 (rf (rf th 0) x1.toNatClampNeg) x2.toNatClampNeg))) M1)))))))) : C_X9_read G th x1 x2 M Q := by
  refine wp_enter (ls0 := [some (.ref (ad G th)), some (.int x1), some (.int x2)]) (by decide +kernel) (Nat.le_of_ble_eq_true rfl) rfl ?_
  refine wp_aload_n dX9_read_0 rfl rfl ?_
  refine wp_iload_n dX9_read_1 rfl rfl ?_
  refine wp_iload_n dX9_read_2 rfl rfl ?_
  refine wp_callVI (a := th) (d1 := 3) (As := [.int x1, .int x2]) (st := []) dX9_read_3 hth cm_X9_holds m_3_47 (by decide) rfl (Nat.le_of_ble_eq_true rfl) rfl h ?_
  intro r2 M1 h
  refine wp_if_eq (tgt := 20) dX9_read_6 (by decide) (fun c3 => ?_) (fun c3 => ?_)
  · replace h := h.1 c3
    refine wp_iconst (v := 0) dX9_read_20 (by decide) ?_
    exact wp_iret (ty := .int) dX9_read_21 rfl rfl h
  · replace h := h.2 c3
    refine wp_aload_n dX9_read_9 rfl rfl ?_
    refine wp_getR (b := rf th 0) dX9_read_10 hth rfl fb_9_0 m_1_34 ?_
    refine wp_iload_n dX9_read_13 rfl rfl ?_
    obtain ⟨b4, h⟩ := h
    refine wp_aald (b := (rf (rf th 0) x1.toNatClampNeg)) (n := ln (rf th 0)) dX9_read_14 (kdf_9_0 hth) (by decide) rfl b4 rfl ?_
    have kb4 : kd (rf (rf th 0) x1.toNatClampNeg) = 20 := (kda_24 (kdf_9_0 hth) (vp_lt b4))
    refine wp_iload_n dX9_read_15 rfl rfl ?_
    obtain ⟨b5, h⟩ := h
    refine wp_iald (n := ln (rf (rf th 0) x1.toNatClampNeg)) dX9_read_16 kb4 rfl b5 ?_
    refine wp_goto (tgt := 21) dX9_read_17 (by decide) ?_
    exact wp_iret (ty := .int) dX9_read_21 rfl rfl h
abbrev C_X9_write (G : Glob) (th : Nat) (x1 : Int32) (x2 : Int32) (x3 : Int32) (M : Mem) (Q : Option Value → Mem → Prop) : Prop := WpM G 4 Y_X9_write [.ref (ad G th), .int x1, .int x2, .int x3] M Q
set_option maxRecDepth 20000 in
theorem v_X9_write {G : Glob} {th : Nat} {x1 : Int32} {x2 : Int32} {x3 : Int32} {M : Mem} {Q : Option Value → Mem → Prop} (hth : kd th = 9) (h : (WpM G 3 Y_X9_holds [.ref (ad G th), .int x1, .int x2] M (RI (fun r2 M1 => ((r2 = 0 → Q none M1) ∧ (¬ r2 = 0 → (vp_in x1 (ln (rf th 0)) ∧ (vp_in x2 (ln (rf (rf th 0) x1.toNatClampNeg)) ∧ (∀ M6 : Mem, M6 = upI M1 (rf (rf th 0) x1.toNatClampNeg) (x2.toNatClampNeg) x3 → Q none M6))))))))) : C_X9_write G th x1 x2 x3 M Q := by
  refine wp_enter (ls0 := [some (.ref (ad G th)), some (.int x1), some (.int x2), some (.int x3)]) (by decide +kernel) (Nat.le_of_ble_eq_true rfl) rfl ?_
  refine wp_aload_n dX9_write_0 rfl rfl ?_
  refine wp_iload_n dX9_write_1 rfl rfl ?_
  refine wp_iload_n dX9_write_2 rfl rfl ?_
  refine wp_callVI (a := th) (d1 := 3) (As := [.int x1, .int x2]) (st := []) dX9_write_3 hth cm_X9_holds m_3_47 (by decide) rfl (Nat.le_of_ble_eq_true rfl) rfl h ?_
  intro r2 M1 h
  refine wp_if_eq (tgt := 18) dX9_write_6 (by decide) (fun c3 => ?_) (fun c3 => ?_)
  · replace h := h.1 c3
    exact wp_vret dX9_write_18 rfl h
  · replace h := h.2 c3
    refine wp_aload_n dX9_write_9 rfl rfl ?_
    refine wp_getR (b := rf th 0) dX9_write_10 hth rfl fb_9_0 m_1_34 ?_
    refine wp_iload_n dX9_write_13 rfl rfl ?_
    obtain ⟨b4, h⟩ := h
    refine wp_aald (b := (rf (rf th 0) x1.toNatClampNeg)) (n := ln (rf th 0)) dX9_write_14 (kdf_9_0 hth) (by decide) rfl b4 rfl ?_
    have kb4 : kd (rf (rf th 0) x1.toNatClampNeg) = 20 := (kda_24 (kdf_9_0 hth) (vp_lt b4))
    refine wp_iload_n dX9_write_15 rfl rfl ?_
    refine wp_iload_n dX9_write_16 rfl rfl ?_
    obtain ⟨b5, h⟩ := h
    refine wp_iast (n := ln (rf (rf th 0) x1.toNatClampNeg)) dX9_write_17 kb4 rfl b5 ?_
    refine wp_topM (fun M6 hM6 => ?_)
    replace h := h M6 hM6
    exact wp_vret dX9_write_18 rfl h
abbrev C_X9_move (G : Glob) (th : Nat) (x1 : Int32) (x2 : Int32) (x3 : Int32) (x4 : Int32) (x5 : Int32) (M : Mem) (Q : Option Value → Mem → Prop) : Prop := WpM G 4 Y_X9_move [.ref (ad G th), .int x1, .int x2, .int x3, .int x4, .int x5] M Q
set_option maxRecDepth 20000 in
theorem v_X9_move {G : Glob} {th : Nat} {x1 : Int32} {x2 : Int32} {x3 : Int32} {x4 : Int32} {x5 : Int32} {M : Mem} {Q : Option Value → Mem → Prop} (hth : kd th = 9) (h : (WpM G 3 Y_X9_reaches [.ref (ad G th), .int x1, .int x2, .int x5] M (RI (fun r2 M1 => ((r2 = 0 → Q none M1) ∧ (¬ r2 = 0 → (WpM G 3 Y_X9_reaches [.ref (ad G th), .int x3, .int x4, .int x5] M1 (RI (fun r5 M4 => ((r5 = 0 → Q none M4) ∧ (¬ r5 = 0 → (vp_in x1 (ln (rf th 0)) ∧ (vp_in x3 (ln (rf th 0)) ∧ (¬ x2 < 0 ∧ ¬ x4 < 0 ∧ ¬ x5 < 0 ∧ x2.toNatClampNeg + x5.toNatClampNeg ≤ ln (rf (rf th 0) x1.toNatClampNeg) ∧ x4.toNatClampNeg + x5.toNatClampNeg ≤ ln (rf (rf th 0) x3.toNatClampNeg) ∧ (∀ M9 : Mem, M9 = upC M4 (rf (rf th 0) x1.toNatClampNeg) (rf (rf th 0) x3.toNatClampNeg) x2.toNatClampNeg x4.toNatClampNeg x5.toNatClampNeg → Q none M9))))))))))))))) : C_X9_move G th x1 x2 x3 x4 x5 M Q := by
  refine wp_enter (ls0 := [some (.ref (ad G th)), some (.int x1), some (.int x2), some (.int x3), some (.int x4), some (.int x5)]) (by decide +kernel) (Nat.le_of_ble_eq_true rfl) rfl ?_
  refine wp_aload_n dX9_move_0 rfl rfl ?_
  refine wp_iload_n dX9_move_1 rfl rfl ?_
  refine wp_iload_n dX9_move_2 rfl rfl ?_
  refine wp_iload dX9_move_3 rfl ?_
  refine wp_callVI (a := th) (d1 := 3) (As := [.int x1, .int x2, .int x5]) (st := []) dX9_move_5 hth cm_X9_reaches m_3_118 (by decide) rfl (Nat.le_of_ble_eq_true rfl) rfl h ?_
  intro r2 M1 h
  refine wp_if_eq (tgt := 43) dX9_move_8 (by decide) (fun c3 => ?_) (fun c3 => ?_)
  · replace h := h.1 c3
    exact wp_vret dX9_move_43 rfl h
  · replace h := h.2 c3
    refine wp_aload_n dX9_move_11 rfl rfl ?_
    refine wp_iload_n dX9_move_12 rfl rfl ?_
    refine wp_iload dX9_move_13 rfl ?_
    refine wp_iload dX9_move_15 rfl ?_
    refine wp_callVI (a := th) (d1 := 3) (As := [.int x3, .int x4, .int x5]) (st := []) dX9_move_17 hth cm_X9_reaches m_3_118 (by decide) rfl (Nat.le_of_ble_eq_true rfl) rfl h ?_
    intro r5 M4 h
    refine wp_if_eq (tgt := 43) dX9_move_20 (by decide) (fun c6 => ?_) (fun c6 => ?_)
    · replace h := h.1 c6
      exact wp_vret dX9_move_43 rfl h
    · replace h := h.2 c6
      refine wp_aload_n dX9_move_23 rfl rfl ?_
      refine wp_getR (b := rf th 0) dX9_move_24 hth rfl fb_9_0 m_1_34 ?_
      refine wp_iload_n dX9_move_27 rfl rfl ?_
      obtain ⟨b7, h⟩ := h
      refine wp_aald (b := (rf (rf th 0) x1.toNatClampNeg)) (n := ln (rf th 0)) dX9_move_28 (kdf_9_0 hth) (by decide) rfl b7 rfl ?_
      have kb7 : kd (rf (rf th 0) x1.toNatClampNeg) = 20 := (kda_24 (kdf_9_0 hth) (vp_lt b7))
      refine wp_iload_n dX9_move_29 rfl rfl ?_
      refine wp_aload_n dX9_move_30 rfl rfl ?_
      refine wp_getR (b := rf th 0) dX9_move_31 hth rfl fb_9_0 m_1_34 ?_
      refine wp_iload_n dX9_move_34 rfl rfl ?_
      obtain ⟨b8, h⟩ := h
      refine wp_aald (b := (rf (rf th 0) x3.toNatClampNeg)) (n := ln (rf th 0)) dX9_move_35 (kdf_9_0 hth) (by decide) rfl b8 rfl ?_
      have kb8 : kd (rf (rf th 0) x3.toNatClampNeg) = 20 := (kda_24 (kdf_9_0 hth) (vp_lt b8))
      refine wp_iload dX9_move_36 rfl ?_
      refine wp_iload dX9_move_38 rfl ?_
      obtain ⟨q1, q2, q3, q4, q5, h⟩ := h
      refine wp_acopy m_3_119 (by decide) mw_acopy kb7 kb8 q1 q2 q3 q4 q5 (Nat.le_of_ble_eq_true rfl) dX9_move_40 ?_
      refine wp_topM (fun M9 hM9 => ?_)
      replace h := h M9 hM9
      exact wp_vret dX9_move_43 rfl h
abbrev P_X9_total_5 (G : Glob) (th : Nat) (x1 : Int32) (x2 : Int64) (x4 : Int32) (M : Mem) (Q : Option Value → Mem → Prop) : Prop := Wp G 5 Y_X9_total 5 [some (.ref (ad G th)), some (.int x1), some (.long x2), none, some (.int x4)] [] M Q
set_option maxRecDepth 20000 in
theorem v_X9_total_5 {G : Glob} {th : Nat} {x1 : Int32} {x2 : Int64} {x4 : Int32} {M : Mem} {Q : Option Value → Mem → Prop} (hth : kd th = 9) (h : (WpM G 2 Y_X9_sizeOf [.ref (ad G th), .int x1] M (RI (fun r2 M1 => ((x4 < r2 → (WpM G 4 Y_X9_read [.ref (ad G th), .int x1, .int x4] M1 (RI (fun r5 M4 => P_X9_total_5 G th x1 (x2 + r5.toInt64) (x4 + 1) M4 Q)))) ∧ (¬ x4 < r2 → Q (some (.long x2)) M1)))))) : P_X9_total_5 G th x1 x2 x4 M Q := by
  refine wp_iload dX9_total_5 rfl ?_
  refine wp_aload_n dX9_total_7 rfl rfl ?_
  refine wp_iload_n dX9_total_8 rfl rfl ?_
  refine wp_callVI (a := th) (d1 := 2) (As := [.int x1]) (st := [.int x4]) dX9_total_9 hth cm_X9_sizeOf m_3_15 (by decide) rfl (Nat.le_of_ble_eq_true rfl) rfl h ?_
  intro r2 M1 h
  refine wp_icmp_ge (tgt := 32) dX9_total_12 (by decide) (fun c3 => ?_) (fun c3 => ?_)
  · replace h := h.2 c3
    refine wp_lload_n dX9_total_32 rfl rfl ?_
    exact wp_lret dX9_total_33 rfl h
  · replace h := h.1 c3
    refine wp_lload_n dX9_total_15 rfl rfl ?_
    refine wp_aload_n dX9_total_16 rfl rfl ?_
    refine wp_iload_n dX9_total_17 rfl rfl ?_
    refine wp_iload dX9_total_18 rfl ?_
    refine wp_callVI (a := th) (d1 := 4) (As := [.int x1, .int x4]) (st := [.long x2]) dX9_total_20 hth cm_X9_read m_3_43 (by decide) rfl (Nat.le_of_ble_eq_true rfl) rfl h ?_
    intro r5 M4 h
    refine wp_i2l dX9_total_23 ?_
    refine wp_ladd dX9_total_24 ?_
    refine wp_lstore_n (ls' := [some (.ref (ad G th)), some (.int x1), some (.long (x2 + r5.toInt64)), none, some (.int x4)]) dX9_total_25 rfl (by decide) rfl rfl ?_
    refine wp_iinc (v := (x4 + 1)) (ls' := [some (.ref (ad G th)), some (.int x1), some (.long (x2 + r5.toInt64)), none, some (.int (x4 + 1))]) dX9_total_26 rfl rfl (by decide) rfl rfl ?_
    refine wp_goto (tgt := 5) dX9_total_29 (by decide) ?_
    exact h
abbrev C_X9_total (G : Glob) (th : Nat) (x1 : Int32) (M : Mem) (Q : Option Value → Mem → Prop) : Prop := WpM G 5 Y_X9_total [.ref (ad G th), .int x1] M Q
set_option maxRecDepth 20000 in
theorem v_X9_total {G : Glob} {th : Nat} {x1 : Int32} {M : Mem} {Q : Option Value → Mem → Prop} (hth : kd th = 9) (h : P_X9_total_5 G th x1 0 0 M Q) : C_X9_total G th x1 M Q := by
  refine wp_enter (ls0 := [some (.ref (ad G th)), some (.int x1), none, none, none]) (by decide +kernel) (Nat.le_of_ble_eq_true rfl) rfl ?_
  refine wp_lconst (v := 0) dX9_total_0 (by decide) ?_
  refine wp_lstore_n (ls' := [some (.ref (ad G th)), some (.int x1), some (.long 0), none, none]) dX9_total_1 rfl (by decide) rfl rfl ?_
  refine wp_iconst (v := 0) dX9_total_2 (by decide) ?_
  refine wp_istore (ls' := [some (.ref (ad G th)), some (.int x1), some (.long 0), none, some (.int 0)]) dX9_total_3 (by decide) rfl rfl ?_
  exact h
abbrev P_X9_howManyThere_4 (G : Glob) (th : Nat) (x1 : Int32) (x2 : Int32) (M : Mem) (Q : Option Value → Mem → Prop) : Prop := Wp G 4 Y_X9_howManyThere 4 [some (.ref (ad G th)), some (.int x1), some (.int x2)] [] M Q
set_option maxRecDepth 20000 in
theorem v_X9_howManyThere_4 {G : Glob} {th : Nat} {x1 : Int32} {x2 : Int32} {M : Mem} {Q : Option Value → Mem → Prop} (hth : kd th = 9) (h : ((x2 < (Int32.ofNat (ln (rf th 1))) → (WpM G 3 Y_X9_isThere [.ref (ad G th), .int x2] M (RI (fun r3 M2 => ((r3 = 0 → P_X9_howManyThere_4 G th x1 (x2 + 1) M2 Q) ∧ (¬ r3 = 0 → P_X9_howManyThere_4 G th (x1 + 1) (x2 + 1) M2 Q)))))) ∧ (¬ x2 < (Int32.ofNat (ln (rf th 1))) → Q (some (.int x1)) M))) : P_X9_howManyThere_4 G th x1 x2 M Q := by
  refine wp_iload_n dX9_howManyThere_4 rfl rfl ?_
  refine wp_aload_n dX9_howManyThere_5 rfl rfl ?_
  refine wp_getR (b := rf th 1) dX9_howManyThere_6 hth rfl fb_9_1 m_1_35 ?_
  refine wp_alen (v := (Int32.ofNat (ln (rf th 1)))) dX9_howManyThere_9 (kdf_9_1 hth) (by decide) rfl ?_
  refine wp_icmp_ge (tgt := 30) dX9_howManyThere_10 (by decide) (fun c1 => ?_) (fun c1 => ?_)
  · replace h := h.2 c1
    refine wp_iload_n dX9_howManyThere_30 rfl rfl ?_
    exact wp_iret (ty := .int) dX9_howManyThere_31 rfl rfl h
  · replace h := h.1 c1
    refine wp_aload_n dX9_howManyThere_13 rfl rfl ?_
    refine wp_iload_n dX9_howManyThere_14 rfl rfl ?_
    refine wp_callVI (a := th) (d1 := 3) (As := [.int x2]) (st := []) dX9_howManyThere_15 hth cm_X9_isThere m_3_11 (by decide) rfl (Nat.le_of_ble_eq_true rfl) rfl h ?_
    intro r3 M2 h
    refine wp_if_eq (tgt := 24) dX9_howManyThere_18 (by decide) (fun c4 => ?_) (fun c4 => ?_)
    · replace h := h.1 c4
      refine wp_iinc (v := (x2 + 1)) (ls' := [some (.ref (ad G th)), some (.int x1), some (.int (x2 + 1))]) dX9_howManyThere_24 rfl rfl (by decide) rfl rfl ?_
      refine wp_goto (tgt := 4) dX9_howManyThere_27 (by decide) ?_
      exact h
    · replace h := h.2 c4
      refine wp_iinc (v := (x1 + 1)) (ls' := [some (.ref (ad G th)), some (.int (x1 + 1)), some (.int x2)]) dX9_howManyThere_21 rfl rfl (by decide) rfl rfl ?_
      refine wp_iinc (v := (x2 + 1)) (ls' := [some (.ref (ad G th)), some (.int (x1 + 1)), some (.int (x2 + 1))]) dX9_howManyThere_24 rfl rfl (by decide) rfl rfl ?_
      refine wp_goto (tgt := 4) dX9_howManyThere_27 (by decide) ?_
      exact h
abbrev C_X9_howManyThere (G : Glob) (th : Nat) (M : Mem) (Q : Option Value → Mem → Prop) : Prop := WpM G 4 Y_X9_howManyThere [.ref (ad G th)] M Q
set_option maxRecDepth 20000 in
theorem v_X9_howManyThere {G : Glob} {th : Nat} {M : Mem} {Q : Option Value → Mem → Prop} (hth : kd th = 9) (h : P_X9_howManyThere_4 G th 0 0 M Q) : C_X9_howManyThere G th M Q := by
  refine wp_enter (ls0 := [some (.ref (ad G th)), none, none]) (by decide +kernel) (Nat.le_of_ble_eq_true rfl) rfl ?_
  refine wp_iconst (v := 0) dX9_howManyThere_0 (by decide) ?_
  refine wp_istore_n (ls' := [some (.ref (ad G th)), some (.int 0), none]) dX9_howManyThere_1 rfl (by decide) rfl rfl ?_
  refine wp_iconst (v := 0) dX9_howManyThere_2 (by decide) ?_
  refine wp_istore_n (ls' := [some (.ref (ad G th)), some (.int 0), some (.int 0)]) dX9_howManyThere_3 rfl (by decide) rfl rfl ?_
  exact h
abbrev P_X9_digestOn_2 (G : Glob) (th : Nat) (x1 : Int64) (x3 : Int32) (M : Mem) (Q : Option Value → Mem → Prop) : Prop := Wp G 5 Y_X9_digestOn 2 [some (.ref (ad G th)), some (.long x1), none, some (.int x3), none] [] M Q
abbrev P_X9_digestOn_28 (G : Glob) (th : Nat) (x1 : Int64) (x3 : Int32) (x4 : Int32) (M : Mem) (Q : Option Value → Mem → Prop) : Prop := Wp G 5 Y_X9_digestOn 28 [some (.ref (ad G th)), some (.long x1), none, some (.int x3), some (.int x4)] [] M Q
set_option maxRecDepth 20000 in
theorem v_X9_digestOn_2 {G : Glob} {th : Nat} {x1 : Int64} {x3 : Int32} {M : Mem} {Q : Option Value → Mem → Prop} (hth : kd th = 9) (h : ((x3 < (Int32.ofNat (ln (rf th 1))) → (vp_in x3 (ln (rf th 1)) ∧ (∀ y3 : Int64, y3 = ((31 * x1) + (M.1 (rf th 1) x3.toNatClampNeg).toInt64) → P_X9_digestOn_28 G th y3 x3 0 M Q))) ∧ (¬ x3 < (Int32.ofNat (ln (rf th 1))) → Q (some (.long x1)) M))) : P_X9_digestOn_2 G th x1 x3 M Q := by
  refine wp_iload_n dX9_digestOn_2 rfl rfl ?_
  refine wp_aload_n dX9_digestOn_3 rfl rfl ?_
  refine wp_getR (b := rf th 1) dX9_digestOn_4 hth rfl fb_9_1 m_1_35 ?_
  refine wp_alen (v := (Int32.ofNat (ln (rf th 1)))) dX9_digestOn_7 (kdf_9_1 hth) (by decide) rfl ?_
  refine wp_icmp_ge (tgt := 66) dX9_digestOn_8 (by decide) (fun c1 => ?_) (fun c1 => ?_)
  · replace h := h.2 c1
    refine wp_lload_n dX9_digestOn_66 rfl rfl ?_
    exact wp_lret dX9_digestOn_67 rfl h
  · replace h := h.1 c1
    refine wp_ldc2 (v := 31) m_3_42 dX9_digestOn_11 ?_
    refine wp_lload_n dX9_digestOn_14 rfl rfl ?_
    refine wp_lmul dX9_digestOn_15 ?_
    refine wp_aload_n dX9_digestOn_16 rfl rfl ?_
    refine wp_getR (b := rf th 1) dX9_digestOn_17 hth rfl fb_9_1 m_1_35 ?_
    refine wp_iload_n dX9_digestOn_20 rfl rfl ?_
    obtain ⟨b2, h⟩ := h
    refine wp_iald (n := ln (rf th 1)) dX9_digestOn_21 (kdf_9_1 hth) rfl b2 ?_
    refine wp_i2l dX9_digestOn_22 ?_
    refine wp_ladd dX9_digestOn_23 ?_
    refine wp_topJ (fun y3 hy3 => ?_)
    replace h := h y3 hy3
    refine wp_lstore_n (ls' := [some (.ref (ad G th)), some (.long y3), none, some (.int x3), none]) dX9_digestOn_24 rfl (by decide) rfl rfl ?_
    refine wp_iconst (v := 0) dX9_digestOn_25 (by decide) ?_
    refine wp_istore (ls' := [some (.ref (ad G th)), some (.long y3), none, some (.int x3), some (.int 0)]) dX9_digestOn_26 (by decide) rfl rfl ?_
    exact h
set_option maxRecDepth 20000 in
theorem v_X9_digestOn_28 {G : Glob} {th : Nat} {x1 : Int64} {x3 : Int32} {x4 : Int32} {M : Mem} {Q : Option Value → Mem → Prop} (hth : kd th = 9) (h : (vp_in x3 (ln (rf th 1)) ∧ ((x4 < (M.1 (rf th 1) x3.toNatClampNeg) → (WpM G 4 Y_X9_read [.ref (ad G th), .int x3, .int x4] M (RI (fun r4 M3 => P_X9_digestOn_28 G th ((31 * x1) + r4.toInt64) x3 (x4 + 1) M3 Q)))) ∧ (¬ x4 < (M.1 (rf th 1) x3.toNatClampNeg) → P_X9_digestOn_2 G th x1 (x3 + 1) M Q)))) : P_X9_digestOn_28 G th x1 x3 x4 M Q := by
  refine wp_iload dX9_digestOn_28 rfl ?_
  refine wp_aload_n dX9_digestOn_30 rfl rfl ?_
  refine wp_getR (b := rf th 1) dX9_digestOn_31 hth rfl fb_9_1 m_1_35 ?_
  refine wp_iload_n dX9_digestOn_34 rfl rfl ?_
  obtain ⟨b1, h⟩ := h
  refine wp_iald (n := ln (rf th 1)) dX9_digestOn_35 (kdf_9_1 hth) rfl b1 ?_
  refine wp_icmp_ge (tgt := 60) dX9_digestOn_36 (by decide) (fun c2 => ?_) (fun c2 => ?_)
  · replace h := h.2 c2
    refine wp_iinc (v := (x3 + 1)) (ls' := [some (.ref (ad G th)), some (.long x1), none, some (.int (x3 + 1)), some (.int x4)]) dX9_digestOn_60 rfl rfl (by decide) rfl rfl ?_
    refine wp_goto (tgt := 2) dX9_digestOn_63 (by decide) ?_
    exact wp_mask [true, true, false, true, false] rfl h
  · replace h := h.1 c2
    refine wp_ldc2 (v := 31) m_3_42 dX9_digestOn_39 ?_
    refine wp_lload_n dX9_digestOn_42 rfl rfl ?_
    refine wp_lmul dX9_digestOn_43 ?_
    refine wp_aload_n dX9_digestOn_44 rfl rfl ?_
    refine wp_iload_n dX9_digestOn_45 rfl rfl ?_
    refine wp_iload dX9_digestOn_46 rfl ?_
    refine wp_callVI (a := th) (d1 := 4) (As := [.int x3, .int x4]) (st := [.long (31 * x1)]) dX9_digestOn_48 hth cm_X9_read m_3_43 (by decide) rfl (Nat.le_of_ble_eq_true rfl) rfl h ?_
    intro r4 M3 h
    refine wp_i2l dX9_digestOn_51 ?_
    refine wp_ladd dX9_digestOn_52 ?_
    refine wp_lstore_n (ls' := [some (.ref (ad G th)), some (.long ((31 * x1) + r4.toInt64)), none, some (.int x3), some (.int x4)]) dX9_digestOn_53 rfl (by decide) rfl rfl ?_
    refine wp_iinc (v := (x4 + 1)) (ls' := [some (.ref (ad G th)), some (.long ((31 * x1) + r4.toInt64)), none, some (.int x3), some (.int (x4 + 1))]) dX9_digestOn_54 rfl rfl (by decide) rfl rfl ?_
    refine wp_goto (tgt := 28) dX9_digestOn_57 (by decide) ?_
    exact h
abbrev C_X9_digestOn (G : Glob) (th : Nat) (x1 : Int64) (M : Mem) (Q : Option Value → Mem → Prop) : Prop := WpM G 5 Y_X9_digestOn [.ref (ad G th), .long x1] M Q
set_option maxRecDepth 20000 in
theorem v_X9_digestOn {G : Glob} {th : Nat} {x1 : Int64} {M : Mem} {Q : Option Value → Mem → Prop} (hth : kd th = 9) (h : P_X9_digestOn_2 G th x1 0 M Q) : C_X9_digestOn G th x1 M Q := by
  refine wp_enter (ls0 := [some (.ref (ad G th)), some (.long x1), none, none, none]) (by decide +kernel) (Nat.le_of_ble_eq_true rfl) rfl ?_
  refine wp_iconst (v := 0) dX9_digestOn_0 (by decide) ?_
  refine wp_istore_n (ls' := [some (.ref (ad G th)), some (.long x1), none, some (.int 0), none]) dX9_digestOn_1 rfl (by decide) rfl rfl ?_
  exact h
