abbrev C_J6_bitCount_0f7a4 (G : Glob) (x0 : Int32) (M : Mem) (Q : Option Value → Mem → Prop) : Prop := WpM G 1 Y_J6_bitCount_0f7a4 [.int x0] M Q
set_option maxRecDepth 20000 in
theorem v_J6_bitCount_0f7a4 {G : Glob} {x0 : Int32} {M : Mem} {Q : Option Value → Mem → Prop}  (h : (∀ y1 : Int32, y1 = (x0 - ((x0.toUInt32 >>> (Int32.toUInt32 1 &&& Int32.toUInt32 31)).toInt32 &&& 1431655765)) → (∀ y2 : Int32, y2 = ((y1 &&& 858993459) + ((y1.toUInt32 >>> (Int32.toUInt32 2 &&& Int32.toUInt32 31)).toInt32 &&& 858993459)) → (∀ y3 : Int32, y3 = ((y2 + (y2.toUInt32 >>> (Int32.toUInt32 4 &&& Int32.toUInt32 31)).toInt32) &&& 252645135) → (∀ y4 : Int32, y4 = (y3 + (y3.toUInt32 >>> (Int32.toUInt32 8 &&& Int32.toUInt32 31)).toInt32) → (∀ y5 : Int32, y5 = (y4 + (y4.toUInt32 >>> (Int32.toUInt32 16 &&& Int32.toUInt32 31)).toInt32) → Q (some (.int (y5 &&& 63))) M)))))) : C_J6_bitCount_0f7a4 G x0 M Q := by
  refine wp_enter (ls0 := [some (.int x0)]) (by decide +kernel) (Nat.le_of_ble_eq_true rfl) rfl ?_
  refine wp_iload_n dJ6_bitCount_0f7a4_0 rfl rfl ?_
  refine wp_iload_n dJ6_bitCount_0f7a4_1 rfl rfl ?_
  refine wp_iconst (v := 1) dJ6_bitCount_0f7a4_2 (by decide) ?_
  refine wp_iushr dJ6_bitCount_0f7a4_3 ?_
  refine wp_ldcw (v := 1431655765) m_2_147 dJ6_bitCount_0f7a4_4 ?_
  refine wp_iand dJ6_bitCount_0f7a4_7 ?_
  refine wp_isub dJ6_bitCount_0f7a4_8 ?_
  refine wp_topI (fun y1 hy1 => ?_)
  replace h := h y1 hy1
  refine wp_istore_n (ls' := [some (.int y1)]) dJ6_bitCount_0f7a4_9 rfl (by decide) rfl rfl ?_
  refine wp_iload_n dJ6_bitCount_0f7a4_10 rfl rfl ?_
  refine wp_ldcw (v := 858993459) m_2_148 dJ6_bitCount_0f7a4_11 ?_
  refine wp_iand dJ6_bitCount_0f7a4_14 ?_
  refine wp_iload_n dJ6_bitCount_0f7a4_15 rfl rfl ?_
  refine wp_iconst (v := 2) dJ6_bitCount_0f7a4_16 (by decide) ?_
  refine wp_iushr dJ6_bitCount_0f7a4_17 ?_
  refine wp_ldcw (v := 858993459) m_2_148 dJ6_bitCount_0f7a4_18 ?_
  refine wp_iand dJ6_bitCount_0f7a4_21 ?_
  refine wp_iadd dJ6_bitCount_0f7a4_22 ?_
  refine wp_topI (fun y2 hy2 => ?_)
  replace h := h y2 hy2
  refine wp_istore_n (ls' := [some (.int y2)]) dJ6_bitCount_0f7a4_23 rfl (by decide) rfl rfl ?_
  refine wp_iload_n dJ6_bitCount_0f7a4_24 rfl rfl ?_
  refine wp_iload_n dJ6_bitCount_0f7a4_25 rfl rfl ?_
  refine wp_iconst (v := 4) dJ6_bitCount_0f7a4_26 (by decide) ?_
  refine wp_iushr dJ6_bitCount_0f7a4_27 ?_
  refine wp_iadd dJ6_bitCount_0f7a4_28 ?_
  refine wp_ldcw (v := 252645135) m_2_149 dJ6_bitCount_0f7a4_29 ?_
  refine wp_iand dJ6_bitCount_0f7a4_32 ?_
  refine wp_topI (fun y3 hy3 => ?_)
  replace h := h y3 hy3
  refine wp_istore_n (ls' := [some (.int y3)]) dJ6_bitCount_0f7a4_33 rfl (by decide) rfl rfl ?_
  refine wp_iload_n dJ6_bitCount_0f7a4_34 rfl rfl ?_
  refine wp_iload_n dJ6_bitCount_0f7a4_35 rfl rfl ?_
  refine wp_bipush (v := 8) dJ6_bitCount_0f7a4_36 (by decide) ?_
  refine wp_iushr dJ6_bitCount_0f7a4_38 ?_
  refine wp_iadd dJ6_bitCount_0f7a4_39 ?_
  refine wp_topI (fun y4 hy4 => ?_)
  replace h := h y4 hy4
  refine wp_istore_n (ls' := [some (.int y4)]) dJ6_bitCount_0f7a4_40 rfl (by decide) rfl rfl ?_
  refine wp_iload_n dJ6_bitCount_0f7a4_41 rfl rfl ?_
  refine wp_iload_n dJ6_bitCount_0f7a4_42 rfl rfl ?_
  refine wp_bipush (v := 16) dJ6_bitCount_0f7a4_43 (by decide) ?_
  refine wp_iushr dJ6_bitCount_0f7a4_45 ?_
  refine wp_iadd dJ6_bitCount_0f7a4_46 ?_
  refine wp_topI (fun y5 hy5 => ?_)
  replace h := h y5 hy5
  refine wp_istore_n (ls' := [some (.int y5)]) dJ6_bitCount_0f7a4_47 rfl (by decide) rfl rfl ?_
  refine wp_iload_n dJ6_bitCount_0f7a4_48 rfl rfl ?_
  refine wp_bipush (v := 63) dJ6_bitCount_0f7a4_49 (by decide) ?_
  refine wp_iand dJ6_bitCount_0f7a4_51 ?_
  exact wp_iret (ty := .int) dJ6_bitCount_0f7a4_52 rfl rfl h
