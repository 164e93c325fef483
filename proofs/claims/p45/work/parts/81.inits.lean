/-! the constructors, walked -/
def Y_X2_init : MY := (yX2_init, cX2_init, 1, none)
theorem cmi_X2_init : CMI Y_X2_init 0 := ⟨⟨m_1_91, m_1_6, ⟨by decide +kernel, by decide +kernel, by decide +kernel⟩, by decide⟩, m_1_90, rfl, rfl⟩
theorem fq_2_0 : FQ 2 0 "DrawerGloves$Deeds" "codes" "[I" true (.array .int) := ⟨_, _, _, tyX2, rfl, inX2, by decide, rfl, rfl, rfl, tyX2_ok, nmX2, rfl, by decide +kernel⟩
def W_X2 (G : Glob) (h0 : Nat) (b : Nat → Nat) : va_W := [(h0, .inr (2, [.ref (b 0), .int 0])), (b 0, .inl (gc G 20, 40, .inl (fun _ => 0)))]
set_option maxRecDepth 20000 in
theorem ci_X2 {G : Glob} : Ci G 1 Y_X2_init 1 40 (.inr (2, [.null, .int 0])) [] (W_X2 G) := by
  refine cf_enter (ls0 := fun h0 => [some (.ref h0)]) (by decide +kernel) rfl rfl (fun _ => Nat.le_of_ble_eq_true rfl) (fun _ => rfl) ?_
  intro h0 p e s m args below meth c X hr hk hn
  refine cf_aload_n X dX2_init_0 rfl rfl ?_
  refine cf_obj X m_1_92 ⟨m_1_21, m_1_22⟩ dX2_init_1 ⟨Nat.le_of_ble_eq_true rfl, Nat.le_of_ble_eq_true rfl⟩ (Nat.le_of_ble_eq_true rfl) ?_
  refine cf_aload_n X dX2_init_4 rfl rfl ?_
  refine cf_bipush (v := 40) X dX2_init_5 (by decide) ?_
  refine cf_newaI (N := 40) (c' := 1) (s' := 40) X dX2_init_7 (by decide) (by decide) (Nat.le_of_ble_eq_true rfl) rfl rfl ⟨Nat.le_of_ble_eq_true rfl, Nat.le_of_ble_eq_true rfl⟩ fun q1 => ?_
  refine cf_putF (q0 := 0) (ws' := [(h0, .inr (2, [.ref q1, .int 0])), (q1, .inl (gc G 20, 40, .inl (fun _ => 0)))]) X hn dX2_init_9 fq_2_0 m_1_93 rfl (Nat.le_of_ble_eq_true rfl) rfl rfl rfl ?_
  exact cf_vret X (fun i => ([q1] : List Nat).getD i 0) dX2_init_12 hr hk rfl rfl rfl
def Y_X4_init : MY := (yX4_init, cX4_init, 1, none)
theorem cmi_X4_init : CMI Y_X4_init 0 := ⟨⟨m_1_106, m_1_7, ⟨by decide +kernel, by decide +kernel, by decide +kernel⟩, by decide⟩, m_1_105, rfl, rfl⟩
def W_X4 (G : Glob) (h0 : Nat) (b : Nat → Nat) : va_W := [(h0, .inr (4, [.int 0, .int 0, .int 0, .int 0, .int 0, .int 0]))]
set_option maxRecDepth 20000 in
theorem ci_X4 {G : Glob} : Ci G 1 Y_X4_init 0 0 (.inr (4, [.int 0, .int 0, .int 0, .int 0, .int 0, .int 0])) [] (W_X4 G) := by
  refine cf_enter (ls0 := fun h0 => [some (.ref h0)]) (by decide +kernel) rfl rfl (fun _ => Nat.le_of_ble_eq_true rfl) (fun _ => rfl) ?_
  intro h0 p e s m args below meth c X hr hk hn
  refine cf_aload_n X dX4_init_0 rfl rfl ?_
  refine cf_obj X m_1_107 ⟨m_1_21, m_1_22⟩ dX4_init_1 ⟨Nat.le_of_ble_eq_true rfl, Nat.le_of_ble_eq_true rfl⟩ (Nat.le_of_ble_eq_true rfl) ?_
  exact cf_vret X (fun i => ([] : List Nat).getD i 0) dX4_init_4 hr hk rfl rfl rfl
def Y_X6_init : MY := (yX6_init, cX6_init, 1, none)
theorem cmi_X6_init : CMI Y_X6_init 0 := ⟨⟨m_1_175, m_1_8, ⟨by decide +kernel, by decide +kernel, by decide +kernel⟩, by decide⟩, m_1_174, rfl, rfl⟩
theorem fq_6_0 : FQ 6 0 "DrawerGloves$Makings" "worth" "[I" true (.array .int) := ⟨_, _, _, tyX6, rfl, inX6, by decide, rfl, rfl, rfl, tyX6_ok, nmX6, rfl, by decide +kernel⟩
theorem fq_6_1 : FQ 6 1 "DrawerGloves$Makings" "best" "[I" true (.array .int) := ⟨_, _, _, tyX6, rfl, inX6, by decide, rfl, rfl, rfl, tyX6_ok, nmX6, rfl, by decide +kernel⟩
theorem fq_6_2 : FQ 6 2 "DrawerGloves$Makings" "most" "[I" true (.array .int) := ⟨_, _, _, tyX6, rfl, inX6, by decide, rfl, rfl, rfl, tyX6_ok, nmX6, rfl, by decide +kernel⟩
theorem fq_6_3 : FQ 6 3 "DrawerGloves$Makings" "enough" "[I" true (.array .int) := ⟨_, _, _, tyX6, rfl, inX6, by decide, rfl, rfl, rfl, tyX6_ok, nmX6, rfl, by decide +kernel⟩
def W_X6 (G : Glob) (h0 : Nat) (b : Nat → Nat) : va_W := [(h0, .inr (6, [.ref (b 0), .ref (b 1), .ref (b 2), .ref (b 3)])), (b 0, .inl (gc G 20, 64, .inl (fun _ => 0))), (b 1, .inl (gc G 20, 256, .inl (fun _ => 0))), (b 2, .inl (gc G 20, 256, .inl (fun _ => 0))), (b 3, .inl (gc G 20, 256, .inl (fun _ => 0)))]
set_option maxRecDepth 20000 in
theorem ci_X6 {G : Glob} : Ci G 1 Y_X6_init 4 832 (.inr (6, [.null, .null, .null, .null])) [] (W_X6 G) := by
  refine cf_enter (ls0 := fun h0 => [some (.ref h0)]) (by decide +kernel) rfl rfl (fun _ => Nat.le_of_ble_eq_true rfl) (fun _ => rfl) ?_
  intro h0 p e s m args below meth c X hr hk hn
  refine cf_aload_n X dX6_init_0 rfl rfl ?_
  refine cf_obj X m_1_176 ⟨m_1_21, m_1_22⟩ dX6_init_1 ⟨Nat.le_of_ble_eq_true rfl, Nat.le_of_ble_eq_true rfl⟩ (Nat.le_of_ble_eq_true rfl) ?_
  refine cf_aload_n X dX6_init_4 rfl rfl ?_
  refine cf_bipush (v := 64) X dX6_init_5 (by decide) ?_
  refine cf_newaI (N := 64) (c' := 1) (s' := 64) X dX6_init_7 (by decide) (by decide) (Nat.le_of_ble_eq_true rfl) rfl rfl ⟨Nat.le_of_ble_eq_true rfl, Nat.le_of_ble_eq_true rfl⟩ fun q1 => ?_
  refine cf_putF (q0 := 0) (ws' := [(h0, .inr (6, [.ref q1, .null, .null, .null])), (q1, .inl (gc G 20, 64, .inl (fun _ => 0)))]) X hn dX6_init_9 fq_6_0 m_1_177 rfl (Nat.le_of_ble_eq_true rfl) rfl rfl rfl ?_
  refine cf_aload_n X dX6_init_12 rfl rfl ?_
  refine cf_sipush (v := 256) X dX6_init_13 (by decide) ?_
  refine cf_newaI (N := 256) (c' := 2) (s' := 320) X dX6_init_16 (by decide) (by decide) (Nat.le_of_ble_eq_true rfl) rfl rfl ⟨Nat.le_of_ble_eq_true rfl, Nat.le_of_ble_eq_true rfl⟩ fun q2 => ?_
  refine cf_putF (q0 := 0) (ws' := [(h0, .inr (6, [.ref q1, .ref q2, .null, .null])), (q1, .inl (gc G 20, 64, .inl (fun _ => 0))), (q2, .inl (gc G 20, 256, .inl (fun _ => 0)))]) X hn dX6_init_18 fq_6_1 m_1_178 rfl (Nat.le_of_ble_eq_true rfl) rfl rfl rfl ?_
  refine cf_aload_n X dX6_init_21 rfl rfl ?_
  refine cf_sipush (v := 256) X dX6_init_22 (by decide) ?_
  refine cf_newaI (N := 256) (c' := 3) (s' := 576) X dX6_init_25 (by decide) (by decide) (Nat.le_of_ble_eq_true rfl) rfl rfl ⟨Nat.le_of_ble_eq_true rfl, Nat.le_of_ble_eq_true rfl⟩ fun q3 => ?_
  refine cf_putF (q0 := 0) (ws' := [(h0, .inr (6, [.ref q1, .ref q2, .ref q3, .null])), (q1, .inl (gc G 20, 64, .inl (fun _ => 0))), (q2, .inl (gc G 20, 256, .inl (fun _ => 0))), (q3, .inl (gc G 20, 256, .inl (fun _ => 0)))]) X hn dX6_init_27 fq_6_2 m_1_181 rfl (Nat.le_of_ble_eq_true rfl) rfl rfl rfl ?_
  refine cf_aload_n X dX6_init_30 rfl rfl ?_
  refine cf_sipush (v := 256) X dX6_init_31 (by decide) ?_
  refine cf_newaI (N := 256) (c' := 4) (s' := 832) X dX6_init_34 (by decide) (by decide) (Nat.le_of_ble_eq_true rfl) rfl rfl ⟨Nat.le_of_ble_eq_true rfl, Nat.le_of_ble_eq_true rfl⟩ fun q4 => ?_
  refine cf_putF (q0 := 0) (ws' := [(h0, .inr (6, [.ref q1, .ref q2, .ref q3, .ref q4])), (q1, .inl (gc G 20, 64, .inl (fun _ => 0))), (q2, .inl (gc G 20, 256, .inl (fun _ => 0))), (q3, .inl (gc G 20, 256, .inl (fun _ => 0))), (q4, .inl (gc G 20, 256, .inl (fun _ => 0)))]) X hn dX6_init_36 fq_6_3 m_1_183 rfl (Nat.le_of_ble_eq_true rfl) rfl rfl rfl ?_
  exact cf_vret X (fun i => ([q1, q2, q3, q4] : List Nat).getD i 0) dX6_init_39 hr hk rfl rfl rfl
def Y_X7_init : MY := (yX7_init, cX7_init, 1, none)
theorem cmi_X7_init : CMI Y_X7_init 0 := ⟨⟨m_1_52, m_1_4, ⟨by decide +kernel, by decide +kernel, by decide +kernel⟩, by decide⟩, m_1_51, rfl, rfl⟩
theorem fq_7_0 : FQ 7 0 "DrawerGloves$Reading" "kind" "[I" true (.array .int) := ⟨_, _, _, tyX7, rfl, inX7, by decide, rfl, rfl, rfl, tyX7_ok, nmX7, rfl, by decide +kernel⟩
theorem fq_7_1 : FQ 7 1 "DrawerGloves$Reading" "sort" "[I" true (.array .int) := ⟨_, _, _, tyX7, rfl, inX7, by decide, rfl, rfl, rfl, tyX7_ok, nmX7, rfl, by decide +kernel⟩
theorem fq_7_2 : FQ 7 2 "DrawerGloves$Reading" "hand" "[I" true (.array .int) := ⟨_, _, _, tyX7, rfl, inX7, by decide, rfl, rfl, rfl, tyX7_ok, nmX7, rfl, by decide +kernel⟩
theorem fq_7_3 : FQ 7 3 "DrawerGloves$Reading" "warm" "[I" true (.array .int) := ⟨_, _, _, tyX7, rfl, inX7, by decide, rfl, rfl, rfl, tyX7_ok, nmX7, rfl, by decide +kernel⟩
def W_X7 (G : Glob) (h0 : Nat) (b : Nat → Nat) : va_W := [(h0, .inr (7, [.ref (b 0), .ref (b 1), .ref (b 2), .ref (b 3), .int 0, .int 0])), (b 0, .inl (gc G 20, 8, .inl (fun _ => 0))), (b 1, .inl (gc G 20, 8, .inl (fun _ => 0))), (b 2, .inl (gc G 20, 8, .inl (fun _ => 0))), (b 3, .inl (gc G 20, 8, .inl (fun _ => 0)))]
set_option maxRecDepth 20000 in
theorem ci_X7 {G : Glob} : Ci G 1 Y_X7_init 4 32 (.inr (7, [.null, .null, .null, .null, .int 0, .int 0])) [] (W_X7 G) := by
  refine cf_enter (ls0 := fun h0 => [some (.ref h0)]) (by decide +kernel) rfl rfl (fun _ => Nat.le_of_ble_eq_true rfl) (fun _ => rfl) ?_
  intro h0 p e s m args below meth c X hr hk hn
  refine cf_aload_n X dX7_init_0 rfl rfl ?_
  refine cf_obj X m_1_53 ⟨m_1_21, m_1_22⟩ dX7_init_1 ⟨Nat.le_of_ble_eq_true rfl, Nat.le_of_ble_eq_true rfl⟩ (Nat.le_of_ble_eq_true rfl) ?_
  refine cf_aload_n X dX7_init_4 rfl rfl ?_
  refine cf_bipush (v := 8) X dX7_init_5 (by decide) ?_
  refine cf_newaI (N := 8) (c' := 1) (s' := 8) X dX7_init_7 (by decide) (by decide) (Nat.le_of_ble_eq_true rfl) rfl rfl ⟨Nat.le_of_ble_eq_true rfl, Nat.le_of_ble_eq_true rfl⟩ fun q1 => ?_
  refine cf_putF (q0 := 0) (ws' := [(h0, .inr (7, [.ref q1, .null, .null, .null, .int 0, .int 0])), (q1, .inl (gc G 20, 8, .inl (fun _ => 0)))]) X hn dX7_init_9 fq_7_0 m_1_54 rfl (Nat.le_of_ble_eq_true rfl) rfl rfl rfl ?_
  refine cf_aload_n X dX7_init_12 rfl rfl ?_
  refine cf_bipush (v := 8) X dX7_init_13 (by decide) ?_
  refine cf_newaI (N := 8) (c' := 2) (s' := 16) X dX7_init_15 (by decide) (by decide) (Nat.le_of_ble_eq_true rfl) rfl rfl ⟨Nat.le_of_ble_eq_true rfl, Nat.le_of_ble_eq_true rfl⟩ fun q2 => ?_
  refine cf_putF (q0 := 0) (ws' := [(h0, .inr (7, [.ref q1, .ref q2, .null, .null, .int 0, .int 0])), (q1, .inl (gc G 20, 8, .inl (fun _ => 0))), (q2, .inl (gc G 20, 8, .inl (fun _ => 0)))]) X hn dX7_init_17 fq_7_1 m_1_56 rfl (Nat.le_of_ble_eq_true rfl) rfl rfl rfl ?_
  refine cf_aload_n X dX7_init_20 rfl rfl ?_
  refine cf_bipush (v := 8) X dX7_init_21 (by decide) ?_
  refine cf_newaI (N := 8) (c' := 3) (s' := 24) X dX7_init_23 (by decide) (by decide) (Nat.le_of_ble_eq_true rfl) rfl rfl ⟨Nat.le_of_ble_eq_true rfl, Nat.le_of_ble_eq_true rfl⟩ fun q3 => ?_
  refine cf_putF (q0 := 0) (ws' := [(h0, .inr (7, [.ref q1, .ref q2, .ref q3, .null, .int 0, .int 0])), (q1, .inl (gc G 20, 8, .inl (fun _ => 0))), (q2, .inl (gc G 20, 8, .inl (fun _ => 0))), (q3, .inl (gc G 20, 8, .inl (fun _ => 0)))]) X hn dX7_init_25 fq_7_2 m_1_58 rfl (Nat.le_of_ble_eq_true rfl) rfl rfl rfl ?_
  refine cf_aload_n X dX7_init_28 rfl rfl ?_
  refine cf_bipush (v := 8) X dX7_init_29 (by decide) ?_
  refine cf_newaI (N := 8) (c' := 4) (s' := 32) X dX7_init_31 (by decide) (by decide) (Nat.le_of_ble_eq_true rfl) rfl rfl ⟨Nat.le_of_ble_eq_true rfl, Nat.le_of_ble_eq_true rfl⟩ fun q4 => ?_
  refine cf_putF (q0 := 0) (ws' := [(h0, .inr (7, [.ref q1, .ref q2, .ref q3, .ref q4, .int 0, .int 0])), (q1, .inl (gc G 20, 8, .inl (fun _ => 0))), (q2, .inl (gc G 20, 8, .inl (fun _ => 0))), (q3, .inl (gc G 20, 8, .inl (fun _ => 0))), (q4, .inl (gc G 20, 8, .inl (fun _ => 0)))]) X hn dX7_init_33 fq_7_3 m_1_60 rfl (Nat.le_of_ble_eq_true rfl) rfl rfl rfl ?_
  exact cf_vret X (fun i => ([q1, q2, q3, q4] : List Nat).getD i 0) dX7_init_36 hr hk rfl rfl rfl
def Y_X1_init : MY := (yX1_init, cX1_init, 1, none)
theorem cmi_X1_init : CMI Y_X1_init 0 := ⟨⟨m_2_16, m_1_12, ⟨by decide +kernel, by decide +kernel, by decide +kernel⟩, by decide⟩, m_2_15, rfl, rfl⟩
theorem fq_1_0 : FQ 1 0 "DrawerGloves$Chances" "loss" "[I" true (.array .int) := ⟨_, _, _, tyX1, rfl, inX1, by decide, rfl, rfl, rfl, tyX1_ok, nmX1, rfl, by decide +kernel⟩
theorem fq_1_1 : FQ 1 1 "DrawerGloves$Chances" "upper" "J" false .long := ⟨_, _, _, tyX1, rfl, inX1, by decide, rfl, rfl, rfl, tyX1_ok, nmX1, rfl, by decide +kernel⟩
theorem fq_1_2 : FQ 1 2 "DrawerGloves$Chances" "lower" "J" false .long := ⟨_, _, _, tyX1, rfl, inX1, by decide, rfl, rfl, rfl, tyX1_ok, nmX1, rfl, by decide +kernel⟩
def W_X1 (G : Glob) (h0 : Nat) (b : Nat → Nat) : va_W := [(h0, .inr (1, [.ref (b 0), .long 0, .long 1])), (b 0, .inl (gc G 20, 8, .inl (fun _ => 0)))]
set_option maxRecDepth 20000 in
theorem ci_X1 {G : Glob} : Ci G 1 Y_X1_init 1 8 (.inr (1, [.null, .long 0, .long 0])) [] (W_X1 G) := by
  refine cf_enter (ls0 := fun h0 => [some (.ref h0)]) (by decide +kernel) rfl rfl (fun _ => Nat.le_of_ble_eq_true rfl) (fun _ => rfl) ?_
  intro h0 p e s m args below meth c X hr hk hn
  refine cf_aload_n X dX1_init_0 rfl rfl ?_
  refine cf_obj X m_2_17 ⟨m_1_21, m_1_22⟩ dX1_init_1 ⟨Nat.le_of_ble_eq_true rfl, Nat.le_of_ble_eq_true rfl⟩ (Nat.le_of_ble_eq_true rfl) ?_
  refine cf_aload_n X dX1_init_4 rfl rfl ?_
  refine cf_bipush (v := 8) X dX1_init_5 (by decide) ?_
  refine cf_newaI (N := 8) (c' := 1) (s' := 8) X dX1_init_7 (by decide) (by decide) (Nat.le_of_ble_eq_true rfl) rfl rfl ⟨Nat.le_of_ble_eq_true rfl, Nat.le_of_ble_eq_true rfl⟩ fun q1 => ?_
  refine cf_putF (q0 := 0) (ws' := [(h0, .inr (1, [.ref q1, .long 0, .long 0])), (q1, .inl (gc G 20, 8, .inl (fun _ => 0)))]) X hn dX1_init_9 fq_1_0 m_2_18 rfl (Nat.le_of_ble_eq_true rfl) rfl rfl rfl ?_
  refine cf_aload_n X dX1_init_12 rfl rfl ?_
  refine cf_lconst (v := 0) X dX1_init_13 (by decide) ?_
  refine cf_put (q0 := 0) (ws' := [(h0, .inr (1, [.ref q1, .long 0, .long 0])), (q1, .inl (gc G 20, 8, .inl (fun _ => 0)))]) X dX1_init_14 fq_1_1 m_2_19 rfl (Nat.le_of_ble_eq_true rfl) rfl rfl rfl ?_
  refine cf_aload_n X dX1_init_17 rfl rfl ?_
  refine cf_lconst (v := 1) X dX1_init_18 (by decide) ?_
  refine cf_put (q0 := 0) (ws' := [(h0, .inr (1, [.ref q1, .long 0, .long 1])), (q1, .inl (gc G 20, 8, .inl (fun _ => 0)))]) X dX1_init_19 fq_1_2 m_2_21 rfl (Nat.le_of_ble_eq_true rfl) rfl rfl rfl ?_
  exact cf_vret X (fun i => ([q1] : List Nat).getD i 0) dX1_init_22 hr hk rfl rfl rfl
def Y_X9_init : MY := (yX9_init, cX9_init, 6, none)
theorem cmi_X9_init : CMI Y_X9_init 3 := ⟨⟨m_1_27, m_1_2, ⟨by decide +kernel, by decide +kernel, by decide +kernel⟩, by decide⟩, m_1_26, rfl, rfl⟩
theorem fq_9_2 : FQ 9 2 "DrawerGloves$Rows" "mostPlaces" "I" true .int := ⟨_, _, _, tyX9, rfl, inX9, by decide, rfl, rfl, rfl, tyX9_ok, nmX9, rfl, by decide +kernel⟩
theorem fq_9_3 : FQ 9 3 "DrawerGloves$Rows" "filler" "I" true .int := ⟨_, _, _, tyX9, rfl, inX9, by decide, rfl, rfl, rfl, tyX9_ok, nmX9, rfl, by decide +kernel⟩
theorem fq_9_0 : FQ 9 0 "DrawerGloves$Rows" "places" "[[I" true (.array (.array .int)) := ⟨_, _, _, tyX9, rfl, inX9, by decide, rfl, rfl, rfl, tyX9_ok, nmX9, rfl, by decide +kernel⟩
theorem fq_9_1 : FQ 9 1 "DrawerGloves$Rows" "sizes" "[I" true (.array .int) := ⟨_, _, _, tyX9, rfl, inX9, by decide, rfl, rfl, rfl, tyX9_ok, nmX9, rfl, by decide +kernel⟩
def W_X9a (G : Glob) (h0 : Nat) (b : Nat → Nat) : va_W := [(h0, .inr (9, [.ref (b 0), .ref (b 1), .int 40, .int 0])), (b 0, .inl (gc G 24, 6, .inr (.inr (.inr (.inr (fun i => if i < 6 then some (b 0 + 1 + i) else none)))))), (b 0 + 1 + 0, .inl (gc G 20, 40, .inl (fun _ => 0))), (b 0 + 1 + 1, .inl (gc G 20, 40, .inl (fun _ => 0))), (b 0 + 1 + 2, .inl (gc G 20, 40, .inl (fun _ => 0))), (b 0 + 1 + 3, .inl (gc G 20, 40, .inl (fun _ => 0))), (b 0 + 1 + 4, .inl (gc G 20, 40, .inl (fun _ => 0))), (b 0 + 1 + 5, .inl (gc G 20, 40, .inl (fun _ => 0))), (b 1, .inl (gc G 20, 6, .inl (upd (upd (upd (upd (upd (upd (fun _ => 0) 0 (-1)) 1 (-1)) 2 (-1)) 3 (-1)) 4 (-1)) 5 (-1))))]
set_option maxRecDepth 20000 in
theorem ci_X9a {G : Glob} : Ci G 2 Y_X9_init 8 252 (.inr (9, [.null, .null, .int 0, .int 0])) [.int 6, .int 40, .int 0] (W_X9a G) := by
  refine cf_enter (ls0 := fun h0 => [some (.ref h0), some (.int 6), some (.int 40), some (.int 0), none, none]) (by decide +kernel) rfl rfl (fun _ => Nat.le_of_ble_eq_true rfl) (fun _ => rfl) ?_
  intro h0 p e s m args below meth c X hr hk hn
  refine cf_aload_n X dX9_init_0 rfl rfl ?_
  refine cf_obj X m_1_28 ⟨m_1_21, m_1_22⟩ dX9_init_1 ⟨Nat.le_of_ble_eq_true rfl, Nat.le_of_ble_eq_true rfl⟩ (Nat.le_of_ble_eq_true rfl) ?_
  refine cf_iconst (v := 0) X dX9_init_4 (by decide) ?_
  refine cf_iload_n X dX9_init_5 rfl rfl ?_
  refine cf_max (v := 6) X m_1_29 ⟨Nat.le_of_ble_eq_true rfl, Nat.le_of_ble_eq_true rfl, Nat.le_of_ble_eq_true rfl, Nat.le_of_ble_eq_true rfl⟩ (by decide) (Nat.le_of_ble_eq_true rfl) dX9_init_6 ?_
  refine cf_istore (ls' := [some (.ref h0), some (.int 6), some (.int 40), some (.int 0), some (.int 6), none]) X dX9_init_9 (by decide) rfl rfl ?_
  refine cf_aload_n X dX9_init_11 rfl rfl ?_
  refine cf_iconst (v := 0) X dX9_init_12 (by decide) ?_
  refine cf_iload_n X dX9_init_13 rfl rfl ?_
  refine cf_max (v := 40) X m_1_29 ⟨Nat.le_of_ble_eq_true rfl, Nat.le_of_ble_eq_true rfl, Nat.le_of_ble_eq_true rfl, Nat.le_of_ble_eq_true rfl⟩ (by decide) (Nat.le_of_ble_eq_true rfl) dX9_init_14 ?_
  refine cf_putF (q0 := 0) (ws' := [(h0, .inr (9, [.null, .null, .int 40, .int 0]))]) X hn dX9_init_17 fq_9_2 m_1_36 rfl (Nat.le_of_ble_eq_true rfl) rfl rfl rfl ?_
  refine cf_aload_n X dX9_init_20 rfl rfl ?_
  refine cf_iload_n X dX9_init_21 rfl rfl ?_
  refine cf_putF (q0 := 0) (ws' := [(h0, .inr (9, [.null, .null, .int 40, .int 0]))]) X hn dX9_init_22 fq_9_3 m_1_37 rfl (Nat.le_of_ble_eq_true rfl) rfl rfl rfl ?_
  refine cf_aload_n X dX9_init_25 rfl rfl ?_
  refine cf_iload X dX9_init_26 rfl ?_
  refine cf_aload_n X dX9_init_28 rfl rfl ?_
  refine cf_get (q0 := 0) X dX9_init_29 fb_9_2 m_1_36 rfl rfl ?_
  refine cf_mna (N := 6) (K0 := 40) (c' := 7) (s' := 246) X dX9_init_32 m_1_32 (by decide) (by decide) (by decide) (by decide) (Nat.le_of_ble_eq_true rfl) (Nat.le_of_ble_eq_true rfl) rfl rfl ⟨Nat.le_of_ble_eq_true rfl, Nat.le_of_ble_eq_true rfl⟩ fun q1 => ?_
  refine cf_putF (q0 := 0) (ws' := [(h0, .inr (9, [.ref q1, .null, .int 40, .int 0])), (q1, .inl (gc G 24, 6, .inr (.inr (.inr (.inr (fun i => if i < 6 then some (q1 + 1 + i) else none)))))), (q1 + 1 + 0, .inl (gc G 20, 40, .inl (fun _ => 0))), (q1 + 1 + 1, .inl (gc G 20, 40, .inl (fun _ => 0))), (q1 + 1 + 2, .inl (gc G 20, 40, .inl (fun _ => 0))), (q1 + 1 + 3, .inl (gc G 20, 40, .inl (fun _ => 0))), (q1 + 1 + 4, .inl (gc G 20, 40, .inl (fun _ => 0))), (q1 + 1 + 5, .inl (gc G 20, 40, .inl (fun _ => 0)))]) X hn dX9_init_36 fq_9_0 m_1_34 rfl (Nat.le_of_ble_eq_true rfl) rfl rfl rfl ?_
  refine cf_aload_n X dX9_init_39 rfl rfl ?_
  refine cf_iload X dX9_init_40 rfl ?_
  refine cf_newaI (N := 6) (c' := 8) (s' := 252) X dX9_init_42 (by decide) (by decide) (Nat.le_of_ble_eq_true rfl) rfl rfl ⟨Nat.le_of_ble_eq_true rfl, Nat.le_of_ble_eq_true rfl⟩ fun q2 => ?_
  refine cf_putF (q0 := 0) (ws' := [(h0, .inr (9, [.ref q1, .ref q2, .int 40, .int 0])), (q1, .inl (gc G 24, 6, .inr (.inr (.inr (.inr (fun i => if i < 6 then some (q1 + 1 + i) else none)))))), (q1 + 1 + 0, .inl (gc G 20, 40, .inl (fun _ => 0))), (q1 + 1 + 1, .inl (gc G 20, 40, .inl (fun _ => 0))), (q1 + 1 + 2, .inl (gc G 20, 40, .inl (fun _ => 0))), (q1 + 1 + 3, .inl (gc G 20, 40, .inl (fun _ => 0))), (q1 + 1 + 4, .inl (gc G 20, 40, .inl (fun _ => 0))), (q1 + 1 + 5, .inl (gc G 20, 40, .inl (fun _ => 0))), (q2, .inl (gc G 20, 6, .inl (fun _ => 0)))]) X hn dX9_init_44 fq_9_1 m_1_35 rfl (Nat.le_of_ble_eq_true rfl) rfl rfl rfl ?_
  refine cf_iconst (v := 0) X dX9_init_47 (by decide) ?_
  refine cf_istore (ls' := [some (.ref h0), some (.int 6), some (.int 40), some (.int 0), some (.int 6), some (.int 0)]) X dX9_init_48 (by decide) rfl rfl ?_
  refine cf_iload X dX9_init_50 rfl ?_
  refine cf_iload X dX9_init_52 rfl ?_
  refine cf_icmp_ge (tgt := 71) X dX9_init_54 (by decide) (fun z => absurd (by decide) z) (fun _ => ?_)
  refine cf_aload_n X dX9_init_57 rfl rfl ?_
  refine cf_get (q0 := 0) X dX9_init_58 fb_9_1 m_1_35 rfl rfl ?_
  refine cf_iload X dX9_init_61 rfl ?_
  refine cf_iconst (v := (-1)) X dX9_init_63 (by decide) ?_
  refine cf_iast (q0 := 8) (j := 0) (f' := (upd (fun _ => 0) 0 (-1))) (ws' := [(h0, .inr (9, [.ref q1, .ref q2, .int 40, .int 0])), (q1, .inl (gc G 24, 6, .inr (.inr (.inr (.inr (fun i => if i < 6 then some (q1 + 1 + i) else none)))))), (q1 + 1 + 0, .inl (gc G 20, 40, .inl (fun _ => 0))), (q1 + 1 + 1, .inl (gc G 20, 40, .inl (fun _ => 0))), (q1 + 1 + 2, .inl (gc G 20, 40, .inl (fun _ => 0))), (q1 + 1 + 3, .inl (gc G 20, 40, .inl (fun _ => 0))), (q1 + 1 + 4, .inl (gc G 20, 40, .inl (fun _ => 0))), (q1 + 1 + 5, .inl (gc G 20, 40, .inl (fun _ => 0))), (q2, .inl (gc G 20, 6, .inl (upd (fun _ => 0) 0 (-1))))]) X dX9_init_64 rfl (by decide) (vin (n := 0) (by decide)) rfl rfl ?_
  refine cf_iinc (v := 1) (ls' := [some (.ref h0), some (.int 6), some (.int 40), some (.int 0), some (.int 6), some (.int 1)]) X dX9_init_65 rfl (by decide) (by decide) rfl rfl ?_
  refine cf_goto (tgt := 50) X dX9_init_68 (by decide) ?_
  refine cf_iload X dX9_init_50 rfl ?_
  refine cf_iload X dX9_init_52 rfl ?_
  refine cf_icmp_ge (tgt := 71) X dX9_init_54 (by decide) (fun z => absurd (by decide) z) (fun _ => ?_)
  refine cf_aload_n X dX9_init_57 rfl rfl ?_
  refine cf_get (q0 := 0) X dX9_init_58 fb_9_1 m_1_35 rfl rfl ?_
  refine cf_iload X dX9_init_61 rfl ?_
  refine cf_iconst (v := (-1)) X dX9_init_63 (by decide) ?_
  refine cf_iast (q0 := 8) (j := 1) (f' := (upd (upd (fun _ => 0) 0 (-1)) 1 (-1))) (ws' := [(h0, .inr (9, [.ref q1, .ref q2, .int 40, .int 0])), (q1, .inl (gc G 24, 6, .inr (.inr (.inr (.inr (fun i => if i < 6 then some (q1 + 1 + i) else none)))))), (q1 + 1 + 0, .inl (gc G 20, 40, .inl (fun _ => 0))), (q1 + 1 + 1, .inl (gc G 20, 40, .inl (fun _ => 0))), (q1 + 1 + 2, .inl (gc G 20, 40, .inl (fun _ => 0))), (q1 + 1 + 3, .inl (gc G 20, 40, .inl (fun _ => 0))), (q1 + 1 + 4, .inl (gc G 20, 40, .inl (fun _ => 0))), (q1 + 1 + 5, .inl (gc G 20, 40, .inl (fun _ => 0))), (q2, .inl (gc G 20, 6, .inl (upd (upd (fun _ => 0) 0 (-1)) 1 (-1))))]) X dX9_init_64 rfl (by decide) (vin (n := 1) (by decide)) rfl rfl ?_
  refine cf_iinc (v := 2) (ls' := [some (.ref h0), some (.int 6), some (.int 40), some (.int 0), some (.int 6), some (.int 2)]) X dX9_init_65 rfl (by decide) (by decide) rfl rfl ?_
  refine cf_goto (tgt := 50) X dX9_init_68 (by decide) ?_
  refine cf_iload X dX9_init_50 rfl ?_
  refine cf_iload X dX9_init_52 rfl ?_
  refine cf_icmp_ge (tgt := 71) X dX9_init_54 (by decide) (fun z => absurd (by decide) z) (fun _ => ?_)
  refine cf_aload_n X dX9_init_57 rfl rfl ?_
  refine cf_get (q0 := 0) X dX9_init_58 fb_9_1 m_1_35 rfl rfl ?_
  refine cf_iload X dX9_init_61 rfl ?_
  refine cf_iconst (v := (-1)) X dX9_init_63 (by decide) ?_
  refine cf_iast (q0 := 8) (j := 2) (f' := (upd (upd (upd (fun _ => 0) 0 (-1)) 1 (-1)) 2 (-1))) (ws' := [(h0, .inr (9, [.ref q1, .ref q2, .int 40, .int 0])), (q1, .inl (gc G 24, 6, .inr (.inr (.inr (.inr (fun i => if i < 6 then some (q1 + 1 + i) else none)))))), (q1 + 1 + 0, .inl (gc G 20, 40, .inl (fun _ => 0))), (q1 + 1 + 1, .inl (gc G 20, 40, .inl (fun _ => 0))), (q1 + 1 + 2, .inl (gc G 20, 40, .inl (fun _ => 0))), (q1 + 1 + 3, .inl (gc G 20, 40, .inl (fun _ => 0))), (q1 + 1 + 4, .inl (gc G 20, 40, .inl (fun _ => 0))), (q1 + 1 + 5, .inl (gc G 20, 40, .inl (fun _ => 0))), (q2, .inl (gc G 20, 6, .inl (upd (upd (upd (fun _ => 0) 0 (-1)) 1 (-1)) 2 (-1))))]) X dX9_init_64 rfl (by decide) (vin (n := 2) (by decide)) rfl rfl ?_
  refine cf_iinc (v := 3) (ls' := [some (.ref h0), some (.int 6), some (.int 40), some (.int 0), some (.int 6), some (.int 3)]) X dX9_init_65 rfl (by decide) (by decide) rfl rfl ?_
  refine cf_goto (tgt := 50) X dX9_init_68 (by decide) ?_
  refine cf_iload X dX9_init_50 rfl ?_
  refine cf_iload X dX9_init_52 rfl ?_
  refine cf_icmp_ge (tgt := 71) X dX9_init_54 (by decide) (fun z => absurd (by decide) z) (fun _ => ?_)
  refine cf_aload_n X dX9_init_57 rfl rfl ?_
  refine cf_get (q0 := 0) X dX9_init_58 fb_9_1 m_1_35 rfl rfl ?_
  refine cf_iload X dX9_init_61 rfl ?_
  refine cf_iconst (v := (-1)) X dX9_init_63 (by decide) ?_
  refine cf_iast (q0 := 8) (j := 3) (f' := (upd (upd (upd (upd (fun _ => 0) 0 (-1)) 1 (-1)) 2 (-1)) 3 (-1))) (ws' := [(h0, .inr (9, [.ref q1, .ref q2, .int 40, .int 0])), (q1, .inl (gc G 24, 6, .inr (.inr (.inr (.inr (fun i => if i < 6 then some (q1 + 1 + i) else none)))))), (q1 + 1 + 0, .inl (gc G 20, 40, .inl (fun _ => 0))), (q1 + 1 + 1, .inl (gc G 20, 40, .inl (fun _ => 0))), (q1 + 1 + 2, .inl (gc G 20, 40, .inl (fun _ => 0))), (q1 + 1 + 3, .inl (gc G 20, 40, .inl (fun _ => 0))), (q1 + 1 + 4, .inl (gc G 20, 40, .inl (fun _ => 0))), (q1 + 1 + 5, .inl (gc G 20, 40, .inl (fun _ => 0))), (q2, .inl (gc G 20, 6, .inl (upd (upd (upd (upd (fun _ => 0) 0 (-1)) 1 (-1)) 2 (-1)) 3 (-1))))]) X dX9_init_64 rfl (by decide) (vin (n := 3) (by decide)) rfl rfl ?_
  refine cf_iinc (v := 4) (ls' := [some (.ref h0), some (.int 6), some (.int 40), some (.int 0), some (.int 6), some (.int 4)]) X dX9_init_65 rfl (by decide) (by decide) rfl rfl ?_
  refine cf_goto (tgt := 50) X dX9_init_68 (by decide) ?_
  refine cf_iload X dX9_init_50 rfl ?_
  refine cf_iload X dX9_init_52 rfl ?_
  refine cf_icmp_ge (tgt := 71) X dX9_init_54 (by decide) (fun z => absurd (by decide) z) (fun _ => ?_)
  refine cf_aload_n X dX9_init_57 rfl rfl ?_
  refine cf_get (q0 := 0) X dX9_init_58 fb_9_1 m_1_35 rfl rfl ?_
  refine cf_iload X dX9_init_61 rfl ?_
  refine cf_iconst (v := (-1)) X dX9_init_63 (by decide) ?_
  refine cf_iast (q0 := 8) (j := 4) (f' := (upd (upd (upd (upd (upd (fun _ => 0) 0 (-1)) 1 (-1)) 2 (-1)) 3 (-1)) 4 (-1))) (ws' := [(h0, .inr (9, [.ref q1, .ref q2, .int 40, .int 0])), (q1, .inl (gc G 24, 6, .inr (.inr (.inr (.inr (fun i => if i < 6 then some (q1 + 1 + i) else none)))))), (q1 + 1 + 0, .inl (gc G 20, 40, .inl (fun _ => 0))), (q1 + 1 + 1, .inl (gc G 20, 40, .inl (fun _ => 0))), (q1 + 1 + 2, .inl (gc G 20, 40, .inl (fun _ => 0))), (q1 + 1 + 3, .inl (gc G 20, 40, .inl (fun _ => 0))), (q1 + 1 + 4, .inl (gc G 20, 40, .inl (fun _ => 0))), (q1 + 1 + 5, .inl (gc G 20, 40, .inl (fun _ => 0))), (q2, .inl (gc G 20, 6, .inl (upd (upd (upd (upd (upd (fun _ => 0) 0 (-1)) 1 (-1)) 2 (-1)) 3 (-1)) 4 (-1))))]) X dX9_init_64 rfl (by decide) (vin (n := 4) (by decide)) rfl rfl ?_
  refine cf_iinc (v := 5) (ls' := [some (.ref h0), some (.int 6), some (.int 40), some (.int 0), some (.int 6), some (.int 5)]) X dX9_init_65 rfl (by decide) (by decide) rfl rfl ?_
  refine cf_goto (tgt := 50) X dX9_init_68 (by decide) ?_
  refine cf_iload X dX9_init_50 rfl ?_
  refine cf_iload X dX9_init_52 rfl ?_
  refine cf_icmp_ge (tgt := 71) X dX9_init_54 (by decide) (fun z => absurd (by decide) z) (fun _ => ?_)
  refine cf_aload_n X dX9_init_57 rfl rfl ?_
  refine cf_get (q0 := 0) X dX9_init_58 fb_9_1 m_1_35 rfl rfl ?_
  refine cf_iload X dX9_init_61 rfl ?_
  refine cf_iconst (v := (-1)) X dX9_init_63 (by decide) ?_
  refine cf_iast (q0 := 8) (j := 5) (f' := (upd (upd (upd (upd (upd (upd (fun _ => 0) 0 (-1)) 1 (-1)) 2 (-1)) 3 (-1)) 4 (-1)) 5 (-1))) (ws' := [(h0, .inr (9, [.ref q1, .ref q2, .int 40, .int 0])), (q1, .inl (gc G 24, 6, .inr (.inr (.inr (.inr (fun i => if i < 6 then some (q1 + 1 + i) else none)))))), (q1 + 1 + 0, .inl (gc G 20, 40, .inl (fun _ => 0))), (q1 + 1 + 1, .inl (gc G 20, 40, .inl (fun _ => 0))), (q1 + 1 + 2, .inl (gc G 20, 40, .inl (fun _ => 0))), (q1 + 1 + 3, .inl (gc G 20, 40, .inl (fun _ => 0))), (q1 + 1 + 4, .inl (gc G 20, 40, .inl (fun _ => 0))), (q1 + 1 + 5, .inl (gc G 20, 40, .inl (fun _ => 0))), (q2, .inl (gc G 20, 6, .inl (upd (upd (upd (upd (upd (upd (fun _ => 0) 0 (-1)) 1 (-1)) 2 (-1)) 3 (-1)) 4 (-1)) 5 (-1))))]) X dX9_init_64 rfl (by decide) (vin (n := 5) (by decide)) rfl rfl ?_
  refine cf_iinc (v := 6) (ls' := [some (.ref h0), some (.int 6), some (.int 40), some (.int 0), some (.int 6), some (.int 6)]) X dX9_init_65 rfl (by decide) (by decide) rfl rfl ?_
  refine cf_goto (tgt := 50) X dX9_init_68 (by decide) ?_
  refine cf_iload X dX9_init_50 rfl ?_
  refine cf_iload X dX9_init_52 rfl ?_
  refine cf_icmp_ge (tgt := 71) X dX9_init_54 (by decide) (fun _ => ?_) (fun z => absurd z (by decide))
  exact cf_vret X (fun i => ([q1, q2] : List Nat).getD i 0) dX9_init_71 hr hk rfl rfl rfl
def W_X9b (G : Glob) (h0 : Nat) (b : Nat → Nat) : va_W := [(h0, .inr (9, [.ref (b 0), .ref (b 1), .int 60, .int 32])), (b 0, .inl (gc G 24, 4, .inr (.inr (.inr (.inr (fun i => if i < 4 then some (b 0 + 1 + i) else none)))))), (b 0 + 1 + 0, .inl (gc G 20, 60, .inl (fun _ => 0))), (b 0 + 1 + 1, .inl (gc G 20, 60, .inl (fun _ => 0))), (b 0 + 1 + 2, .inl (gc G 20, 60, .inl (fun _ => 0))), (b 0 + 1 + 3, .inl (gc G 20, 60, .inl (fun _ => 0))), (b 1, .inl (gc G 20, 4, .inl (upd (upd (upd (upd (fun _ => 0) 0 (-1)) 1 (-1)) 2 (-1)) 3 (-1))))]
set_option maxRecDepth 20000 in
theorem ci_X9b {G : Glob} : Ci G 2 Y_X9_init 6 248 (.inr (9, [.null, .null, .int 0, .int 0])) [.int 4, .int 60, .int 32] (W_X9b G) := by
  refine cf_enter (ls0 := fun h0 => [some (.ref h0), some (.int 4), some (.int 60), some (.int 32), none, none]) (by decide +kernel) rfl rfl (fun _ => Nat.le_of_ble_eq_true rfl) (fun _ => rfl) ?_
  intro h0 p e s m args below meth c X hr hk hn
  refine cf_aload_n X dX9_init_0 rfl rfl ?_
  refine cf_obj X m_1_28 ⟨m_1_21, m_1_22⟩ dX9_init_1 ⟨Nat.le_of_ble_eq_true rfl, Nat.le_of_ble_eq_true rfl⟩ (Nat.le_of_ble_eq_true rfl) ?_
  refine cf_iconst (v := 0) X dX9_init_4 (by decide) ?_
  refine cf_iload_n X dX9_init_5 rfl rfl ?_
  refine cf_max (v := 4) X m_1_29 ⟨Nat.le_of_ble_eq_true rfl, Nat.le_of_ble_eq_true rfl, Nat.le_of_ble_eq_true rfl, Nat.le_of_ble_eq_true rfl⟩ (by decide) (Nat.le_of_ble_eq_true rfl) dX9_init_6 ?_
  refine cf_istore (ls' := [some (.ref h0), some (.int 4), some (.int 60), some (.int 32), some (.int 4), none]) X dX9_init_9 (by decide) rfl rfl ?_
  refine cf_aload_n X dX9_init_11 rfl rfl ?_
  refine cf_iconst (v := 0) X dX9_init_12 (by decide) ?_
  refine cf_iload_n X dX9_init_13 rfl rfl ?_
  refine cf_max (v := 60) X m_1_29 ⟨Nat.le_of_ble_eq_true rfl, Nat.le_of_ble_eq_true rfl, Nat.le_of_ble_eq_true rfl, Nat.le_of_ble_eq_true rfl⟩ (by decide) (Nat.le_of_ble_eq_true rfl) dX9_init_14 ?_
  refine cf_putF (q0 := 0) (ws' := [(h0, .inr (9, [.null, .null, .int 60, .int 0]))]) X hn dX9_init_17 fq_9_2 m_1_36 rfl (Nat.le_of_ble_eq_true rfl) rfl rfl rfl ?_
  refine cf_aload_n X dX9_init_20 rfl rfl ?_
  refine cf_iload_n X dX9_init_21 rfl rfl ?_
  refine cf_putF (q0 := 0) (ws' := [(h0, .inr (9, [.null, .null, .int 60, .int 32]))]) X hn dX9_init_22 fq_9_3 m_1_37 rfl (Nat.le_of_ble_eq_true rfl) rfl rfl rfl ?_
  refine cf_aload_n X dX9_init_25 rfl rfl ?_
  refine cf_iload X dX9_init_26 rfl ?_
  refine cf_aload_n X dX9_init_28 rfl rfl ?_
  refine cf_get (q0 := 0) X dX9_init_29 fb_9_2 m_1_36 rfl rfl ?_
  refine cf_mna (N := 4) (K0 := 60) (c' := 5) (s' := 244) X dX9_init_32 m_1_32 (by decide) (by decide) (by decide) (by decide) (Nat.le_of_ble_eq_true rfl) (Nat.le_of_ble_eq_true rfl) rfl rfl ⟨Nat.le_of_ble_eq_true rfl, Nat.le_of_ble_eq_true rfl⟩ fun q1 => ?_
  refine cf_putF (q0 := 0) (ws' := [(h0, .inr (9, [.ref q1, .null, .int 60, .int 32])), (q1, .inl (gc G 24, 4, .inr (.inr (.inr (.inr (fun i => if i < 4 then some (q1 + 1 + i) else none)))))), (q1 + 1 + 0, .inl (gc G 20, 60, .inl (fun _ => 0))), (q1 + 1 + 1, .inl (gc G 20, 60, .inl (fun _ => 0))), (q1 + 1 + 2, .inl (gc G 20, 60, .inl (fun _ => 0))), (q1 + 1 + 3, .inl (gc G 20, 60, .inl (fun _ => 0)))]) X hn dX9_init_36 fq_9_0 m_1_34 rfl (Nat.le_of_ble_eq_true rfl) rfl rfl rfl ?_
  refine cf_aload_n X dX9_init_39 rfl rfl ?_
  refine cf_iload X dX9_init_40 rfl ?_
  refine cf_newaI (N := 4) (c' := 6) (s' := 248) X dX9_init_42 (by decide) (by decide) (Nat.le_of_ble_eq_true rfl) rfl rfl ⟨Nat.le_of_ble_eq_true rfl, Nat.le_of_ble_eq_true rfl⟩ fun q2 => ?_
  refine cf_putF (q0 := 0) (ws' := [(h0, .inr (9, [.ref q1, .ref q2, .int 60, .int 32])), (q1, .inl (gc G 24, 4, .inr (.inr (.inr (.inr (fun i => if i < 4 then some (q1 + 1 + i) else none)))))), (q1 + 1 + 0, .inl (gc G 20, 60, .inl (fun _ => 0))), (q1 + 1 + 1, .inl (gc G 20, 60, .inl (fun _ => 0))), (q1 + 1 + 2, .inl (gc G 20, 60, .inl (fun _ => 0))), (q1 + 1 + 3, .inl (gc G 20, 60, .inl (fun _ => 0))), (q2, .inl (gc G 20, 4, .inl (fun _ => 0)))]) X hn dX9_init_44 fq_9_1 m_1_35 rfl (Nat.le_of_ble_eq_true rfl) rfl rfl rfl ?_
  refine cf_iconst (v := 0) X dX9_init_47 (by decide) ?_
  refine cf_istore (ls' := [some (.ref h0), some (.int 4), some (.int 60), some (.int 32), some (.int 4), some (.int 0)]) X dX9_init_48 (by decide) rfl rfl ?_
  refine cf_iload X dX9_init_50 rfl ?_
  refine cf_iload X dX9_init_52 rfl ?_
  refine cf_icmp_ge (tgt := 71) X dX9_init_54 (by decide) (fun z => absurd (by decide) z) (fun _ => ?_)
  refine cf_aload_n X dX9_init_57 rfl rfl ?_
  refine cf_get (q0 := 0) X dX9_init_58 fb_9_1 m_1_35 rfl rfl ?_
  refine cf_iload X dX9_init_61 rfl ?_
  refine cf_iconst (v := (-1)) X dX9_init_63 (by decide) ?_
  refine cf_iast (q0 := 6) (j := 0) (f' := (upd (fun _ => 0) 0 (-1))) (ws' := [(h0, .inr (9, [.ref q1, .ref q2, .int 60, .int 32])), (q1, .inl (gc G 24, 4, .inr (.inr (.inr (.inr (fun i => if i < 4 then some (q1 + 1 + i) else none)))))), (q1 + 1 + 0, .inl (gc G 20, 60, .inl (fun _ => 0))), (q1 + 1 + 1, .inl (gc G 20, 60, .inl (fun _ => 0))), (q1 + 1 + 2, .inl (gc G 20, 60, .inl (fun _ => 0))), (q1 + 1 + 3, .inl (gc G 20, 60, .inl (fun _ => 0))), (q2, .inl (gc G 20, 4, .inl (upd (fun _ => 0) 0 (-1))))]) X dX9_init_64 rfl (by decide) (vin (n := 0) (by decide)) rfl rfl ?_
  refine cf_iinc (v := 1) (ls' := [some (.ref h0), some (.int 4), some (.int 60), some (.int 32), some (.int 4), some (.int 1)]) X dX9_init_65 rfl (by decide) (by decide) rfl rfl ?_
  refine cf_goto (tgt := 50) X dX9_init_68 (by decide) ?_
  refine cf_iload X dX9_init_50 rfl ?_
  refine cf_iload X dX9_init_52 rfl ?_
  refine cf_icmp_ge (tgt := 71) X dX9_init_54 (by decide) (fun z => absurd (by decide) z) (fun _ => ?_)
  refine cf_aload_n X dX9_init_57 rfl rfl ?_
  refine cf_get (q0 := 0) X dX9_init_58 fb_9_1 m_1_35 rfl rfl ?_
  refine cf_iload X dX9_init_61 rfl ?_
  refine cf_iconst (v := (-1)) X dX9_init_63 (by decide) ?_
  refine cf_iast (q0 := 6) (j := 1) (f' := (upd (upd (fun _ => 0) 0 (-1)) 1 (-1))) (ws' := [(h0, .inr (9, [.ref q1, .ref q2, .int 60, .int 32])), (q1, .inl (gc G 24, 4, .inr (.inr (.inr (.inr (fun i => if i < 4 then some (q1 + 1 + i) else none)))))), (q1 + 1 + 0, .inl (gc G 20, 60, .inl (fun _ => 0))), (q1 + 1 + 1, .inl (gc G 20, 60, .inl (fun _ => 0))), (q1 + 1 + 2, .inl (gc G 20, 60, .inl (fun _ => 0))), (q1 + 1 + 3, .inl (gc G 20, 60, .inl (fun _ => 0))), (q2, .inl (gc G 20, 4, .inl (upd (upd (fun _ => 0) 0 (-1)) 1 (-1))))]) X dX9_init_64 rfl (by decide) (vin (n := 1) (by decide)) rfl rfl ?_
  refine cf_iinc (v := 2) (ls' := [some (.ref h0), some (.int 4), some (.int 60), some (.int 32), some (.int 4), some (.int 2)]) X dX9_init_65 rfl (by decide) (by decide) rfl rfl ?_
  refine cf_goto (tgt := 50) X dX9_init_68 (by decide) ?_
  refine cf_iload X dX9_init_50 rfl ?_
  refine cf_iload X dX9_init_52 rfl ?_
  refine cf_icmp_ge (tgt := 71) X dX9_init_54 (by decide) (fun z => absurd (by decide) z) (fun _ => ?_)
  refine cf_aload_n X dX9_init_57 rfl rfl ?_
  refine cf_get (q0 := 0) X dX9_init_58 fb_9_1 m_1_35 rfl rfl ?_
  refine cf_iload X dX9_init_61 rfl ?_
  refine cf_iconst (v := (-1)) X dX9_init_63 (by decide) ?_
  refine cf_iast (q0 := 6) (j := 2) (f' := (upd (upd (upd (fun _ => 0) 0 (-1)) 1 (-1)) 2 (-1))) (ws' := [(h0, .inr (9, [.ref q1, .ref q2, .int 60, .int 32])), (q1, .inl (gc G 24, 4, .inr (.inr (.inr (.inr (fun i => if i < 4 then some (q1 + 1 + i) else none)))))), (q1 + 1 + 0, .inl (gc G 20, 60, .inl (fun _ => 0))), (q1 + 1 + 1, .inl (gc G 20, 60, .inl (fun _ => 0))), (q1 + 1 + 2, .inl (gc G 20, 60, .inl (fun _ => 0))), (q1 + 1 + 3, .inl (gc G 20, 60, .inl (fun _ => 0))), (q2, .inl (gc G 20, 4, .inl (upd (upd (upd (fun _ => 0) 0 (-1)) 1 (-1)) 2 (-1))))]) X dX9_init_64 rfl (by decide) (vin (n := 2) (by decide)) rfl rfl ?_
  refine cf_iinc (v := 3) (ls' := [some (.ref h0), some (.int 4), some (.int 60), some (.int 32), some (.int 4), some (.int 3)]) X dX9_init_65 rfl (by decide) (by decide) rfl rfl ?_
  refine cf_goto (tgt := 50) X dX9_init_68 (by decide) ?_
  refine cf_iload X dX9_init_50 rfl ?_
  refine cf_iload X dX9_init_52 rfl ?_
  refine cf_icmp_ge (tgt := 71) X dX9_init_54 (by decide) (fun z => absurd (by decide) z) (fun _ => ?_)
  refine cf_aload_n X dX9_init_57 rfl rfl ?_
  refine cf_get (q0 := 0) X dX9_init_58 fb_9_1 m_1_35 rfl rfl ?_
  refine cf_iload X dX9_init_61 rfl ?_
  refine cf_iconst (v := (-1)) X dX9_init_63 (by decide) ?_
  refine cf_iast (q0 := 6) (j := 3) (f' := (upd (upd (upd (upd (fun _ => 0) 0 (-1)) 1 (-1)) 2 (-1)) 3 (-1))) (ws' := [(h0, .inr (9, [.ref q1, .ref q2, .int 60, .int 32])), (q1, .inl (gc G 24, 4, .inr (.inr (.inr (.inr (fun i => if i < 4 then some (q1 + 1 + i) else none)))))), (q1 + 1 + 0, .inl (gc G 20, 60, .inl (fun _ => 0))), (q1 + 1 + 1, .inl (gc G 20, 60, .inl (fun _ => 0))), (q1 + 1 + 2, .inl (gc G 20, 60, .inl (fun _ => 0))), (q1 + 1 + 3, .inl (gc G 20, 60, .inl (fun _ => 0))), (q2, .inl (gc G 20, 4, .inl (upd (upd (upd (upd (fun _ => 0) 0 (-1)) 1 (-1)) 2 (-1)) 3 (-1))))]) X dX9_init_64 rfl (by decide) (vin (n := 3) (by decide)) rfl rfl ?_
  refine cf_iinc (v := 4) (ls' := [some (.ref h0), some (.int 4), some (.int 60), some (.int 32), some (.int 4), some (.int 4)]) X dX9_init_65 rfl (by decide) (by decide) rfl rfl ?_
  refine cf_goto (tgt := 50) X dX9_init_68 (by decide) ?_
  refine cf_iload X dX9_init_50 rfl ?_
  refine cf_iload X dX9_init_52 rfl ?_
  refine cf_icmp_ge (tgt := 71) X dX9_init_54 (by decide) (fun _ => ?_) (fun z => absurd z (by decide))
  exact cf_vret X (fun i => ([q1, q2] : List Nat).getD i 0) dX9_init_71 hr hk rfl rfl rfl
def Y_X5_init : MY := (yX5_init, cX5_init, 1, none)
theorem cmi_X5_init : CMI Y_X5_init 0 := ⟨⟨m_1_228, m_1_10, ⟨by decide +kernel, by decide +kernel, by decide +kernel⟩, by decide⟩, m_1_227, rfl, rfl⟩
theorem nw_4 : NW 4 "DrawerGloves$Glove" 6 [.int 0, .int 0, .int 0, .int 0, .int 0, .int 0] := ⟨TX4, tyX4, rfl, inX4, tyX4_ok, fun j hj => (lt_s (lt_s (lt_s (lt_s (lt_s (lt_s lt_0 rfl) rfl) rfl) rfl) rfl) rfl : ∀ j, j < 6 → defaultValue (tyX4 j) = vp_V [.int 0, .int 0, .int 0, .int 0, .int 0, .int 0] j) j hj, m_1_103, m_1_7⟩
theorem fq_5_0 : FQ 5 0 "DrawerGloves$Guess" "maybe" "LDrawerGloves$Glove;" true (.object "DrawerGloves$Glove") := ⟨_, _, _, tyX5, rfl, inX5, by decide, rfl, rfl, rfl, tyX5_ok, nmX5, rfl, by decide +kernel⟩
theorem fq_5_1 : FQ 5 1 "DrawerGloves$Guess" "outcome" "[I" true (.array .int) := ⟨_, _, _, tyX5, rfl, inX5, by decide, rfl, rfl, rfl, tyX5_ok, nmX5, rfl, by decide +kernel⟩
def W_X5 (G : Glob) (h0 : Nat) (b : Nat → Nat) : va_W := [(h0, .inr (5, [.ref (b 0), .ref (b 1)])), (b 0, .inr (4, [.int 0, .int 0, .int 0, .int 0, .int 0, .int 0])), (b 1, .inl (gc G 20, 6, .inl (fun _ => 0)))]
set_option maxRecDepth 20000 in
theorem ci_X5 {G : Glob} : Ci G 2 Y_X5_init 2 12 (.inr (5, [.null, .null])) [] (W_X5 G) := by
  refine cf_enter (ls0 := fun h0 => [some (.ref h0)]) (by decide +kernel) rfl rfl (fun _ => Nat.le_of_ble_eq_true rfl) (fun _ => rfl) ?_
  intro h0 p e s m args below meth c X hr hk hn
  refine cf_aload_n X dX5_init_0 rfl rfl ?_
  refine cf_obj X m_1_229 ⟨m_1_21, m_1_22⟩ dX5_init_1 ⟨Nat.le_of_ble_eq_true rfl, Nat.le_of_ble_eq_true rfl⟩ (Nat.le_of_ble_eq_true rfl) ?_
  refine cf_aload_n X dX5_init_4 rfl rfl ?_
  refine cf_new (c' := 1) (s' := 6) X dX5_init_5 nw_4 m_1_230 rfl rfl ⟨Nat.le_of_ble_eq_true rfl, Nat.le_of_ble_eq_true rfl⟩ fun q1 => ?_
  refine cf_dup X dX5_init_8 rfl ?_
  refine cf_init (q0 := 1) (d := 1) (c' := 1) (s' := 6) (As := []) (isR := [0]) (wr := [(h0, .inr (5, [.null, .null]))]) X dX5_init_9 cmi_X4_init m_1_231 ⟨Nat.le_of_ble_eq_true rfl, Nat.le_of_ble_eq_true rfl⟩ ⟨Nat.le_of_ble_eq_true rfl, Nat.le_of_ble_eq_true rfl⟩ rfl rfl rfl (Nat.le_of_ble_eq_true rfl) rfl rfl ci_X4 rfl rfl rfl (by decide) fun b2 => ?_
  refine cf_putF (q0 := 0) (ws' := [(h0, .inr (5, [.ref q1, .null])), (q1, .inr (4, [.int 0, .int 0, .int 0, .int 0, .int 0, .int 0]))]) X hn dX5_init_12 fq_5_0 m_1_232 rfl (Nat.le_of_ble_eq_true rfl) rfl rfl rfl ?_
  refine cf_aload_n X dX5_init_15 rfl rfl ?_
  refine cf_bipush (v := 6) X dX5_init_16 (by decide) ?_
  refine cf_newaI (N := 6) (c' := 2) (s' := 12) X dX5_init_18 (by decide) (by decide) (Nat.le_of_ble_eq_true rfl) rfl rfl ⟨Nat.le_of_ble_eq_true rfl, Nat.le_of_ble_eq_true rfl⟩ fun q3 => ?_
  refine cf_putF (q0 := 0) (ws' := [(h0, .inr (5, [.ref q1, .ref q3])), (q1, .inr (4, [.int 0, .int 0, .int 0, .int 0, .int 0, .int 0])), (q3, .inl (gc G 20, 6, .inl (fun _ => 0)))]) X hn dX5_init_20 fq_5_1 m_1_233 rfl (Nat.le_of_ble_eq_true rfl) rfl rfl rfl ?_
  exact cf_vret X (fun i => ([q1, q3] : List Nat).getD i 0) dX5_init_23 hr hk rfl rfl rfl
def Y_X3_init : MY := (yX3_init, cX3_init, 2, none)
theorem cmi_X3_init : CMI Y_X3_init 0 := ⟨⟨m_1_83, m_1_5, ⟨by decide +kernel, by decide +kernel, by decide +kernel⟩, by decide⟩, m_1_82, rfl, rfl⟩
theorem fq_3_0 : FQ 3 0 "DrawerGloves$Drawer" "gloves" "[LDrawerGloves$Glove;" true (.array (.object "DrawerGloves$Glove")) := ⟨_, _, _, tyX3, rfl, inX3, by decide, rfl, rfl, rfl, tyX3_ok, nmX3, rfl, by decide +kernel⟩
theorem nw_2 : NW 2 "DrawerGloves$Deeds" 2 [.null, .int 0] := ⟨TX2, tyX2, rfl, inX2, tyX2_ok, fun j hj => (lt_s (lt_s lt_0 rfl) rfl : ∀ j, j < 2 → defaultValue (tyX2 j) = vp_V [.null, .int 0] j) j hj, m_1_88, m_1_6⟩
theorem fq_3_1 : FQ 3 1 "DrawerGloves$Drawer" "deeds" "LDrawerGloves$Deeds;" true (.object "DrawerGloves$Deeds") := ⟨_, _, _, tyX3, rfl, inX3, by decide, rfl, rfl, rfl, tyX3_ok, nmX3, rfl, by decide +kernel⟩
def W_X3 (G : Glob) (h0 : Nat) (b : Nat → Nat) : va_W := [(h0, .inr (3, [.ref (b 0), .ref (b 1), .int 0, .int 0])), (b 0, .inl (gc G 23, 8, .inr (.inr (.inr (.inr (va_up (va_up (va_up (va_up (va_up (va_up (va_up (va_up (fun _ => none) 0 (some (b 3))) 1 (some (b 4))) 2 (some (b 5))) 3 (some (b 6))) 4 (some (b 7))) 5 (some (b 8))) 6 (some (b 9))) 7 (some (b 10)))))))), (b 1, .inr (2, [.ref (b 2), .int 0])), (b 2, .inl (gc G 20, 40, .inl (fun _ => 0))), (b 3, .inr (4, [.int 0, .int 0, .int 0, .int 0, .int 0, .int 0])), (b 4, .inr (4, [.int 0, .int 0, .int 0, .int 0, .int 0, .int 0])), (b 5, .inr (4, [.int 0, .int 0, .int 0, .int 0, .int 0, .int 0])), (b 6, .inr (4, [.int 0, .int 0, .int 0, .int 0, .int 0, .int 0])), (b 7, .inr (4, [.int 0, .int 0, .int 0, .int 0, .int 0, .int 0])), (b 8, .inr (4, [.int 0, .int 0, .int 0, .int 0, .int 0, .int 0])), (b 9, .inr (4, [.int 0, .int 0, .int 0, .int 0, .int 0, .int 0])), (b 10, .inr (4, [.int 0, .int 0, .int 0, .int 0, .int 0, .int 0]))]
set_option maxRecDepth 20000 in
theorem ci_X3 {G : Glob} : Ci G 2 Y_X3_init 11 98 (.inr (3, [.null, .null, .int 0, .int 0])) [] (W_X3 G) := by
  refine cf_enter (ls0 := fun h0 => [some (.ref h0), none]) (by decide +kernel) rfl rfl (fun _ => Nat.le_of_ble_eq_true rfl) (fun _ => rfl) ?_
  intro h0 p e s m args below meth c X hr hk hn
  refine cf_aload_n X dX3_init_0 rfl rfl ?_
  refine cf_obj X m_1_84 ⟨m_1_21, m_1_22⟩ dX3_init_1 ⟨Nat.le_of_ble_eq_true rfl, Nat.le_of_ble_eq_true rfl⟩ (Nat.le_of_ble_eq_true rfl) ?_
  refine cf_aload_n X dX3_init_4 rfl rfl ?_
  refine cf_bipush (v := 8) X dX3_init_5 (by decide) ?_
  refine cf_newq (C := "DrawerGloves$Glove") (t0 := 2) (c0 := gc G 23) (N := 8) (c' := 1) (s' := 8) X dX3_init_7 m_1_85 X.2.2.2.2.2.2.1.2.1 rfl (by decide) (by decide) (Nat.le_of_ble_eq_true rfl) rfl rfl ⟨Nat.le_of_ble_eq_true rfl, Nat.le_of_ble_eq_true rfl⟩ fun q1 => ?_
  refine cf_putF (q0 := 0) (ws' := [(h0, .inr (3, [.ref q1, .null, .int 0, .int 0])), (q1, .inl (gc G 23, 8, .inr (.inr (.inr (.inr (fun _ => none))))))]) X hn dX3_init_10 fq_3_0 m_1_142 rfl (Nat.le_of_ble_eq_true rfl) rfl rfl rfl ?_
  refine cf_aload_n X dX3_init_13 rfl rfl ?_
  refine cf_new (c' := 2) (s' := 10) X dX3_init_14 nw_2 m_1_87 rfl rfl ⟨Nat.le_of_ble_eq_true rfl, Nat.le_of_ble_eq_true rfl⟩ fun q2 => ?_
  refine cf_dup X dX3_init_17 rfl ?_
  refine cf_init (q0 := 2) (d := 1) (c' := 3) (s' := 50) (As := []) (isR := [0, 1]) (wr := [(h0, .inr (3, [.ref q1, .null, .int 0, .int 0])), (q1, .inl (gc G 23, 8, .inr (.inr (.inr (.inr (fun _ => none))))))]) X dX3_init_18 cmi_X2_init m_1_89 ⟨Nat.le_of_ble_eq_true rfl, Nat.le_of_ble_eq_true rfl⟩ ⟨Nat.le_of_ble_eq_true rfl, Nat.le_of_ble_eq_true rfl⟩ rfl rfl rfl (Nat.le_of_ble_eq_true rfl) rfl rfl ci_X2 rfl rfl rfl (by decide) fun b3 => ?_
  refine cf_putF (q0 := 0) (ws' := [(h0, .inr (3, [.ref q1, .ref q2, .int 0, .int 0])), (q1, .inl (gc G 23, 8, .inr (.inr (.inr (.inr (fun _ => none)))))), (q2, .inr (2, [.ref (b3 0), .int 0])), (b3 0, .inl (gc G 20, 40, .inl (fun _ => 0)))]) X hn dX3_init_21 fq_3_1 m_1_148 rfl (Nat.le_of_ble_eq_true rfl) rfl rfl rfl ?_
  refine cf_iconst (v := 0) X dX3_init_24 (by decide) ?_
  refine cf_istore_n (ls' := [some (.ref h0), some (.int 0)]) X dX3_init_25 rfl (by decide) rfl rfl ?_
  refine cf_iload_n X dX3_init_26 rfl rfl ?_
  refine cf_bipush (v := 8) X dX3_init_27 (by decide) ?_
  refine cf_icmp_ge (tgt := 51) X dX3_init_29 (by decide) (fun z => absurd (by decide) z) (fun _ => ?_)
  refine cf_aload_n X dX3_init_32 rfl rfl ?_
  refine cf_get (q0 := 0) X dX3_init_33 fb_3_0 m_1_142 rfl rfl ?_
  refine cf_iload_n X dX3_init_36 rfl rfl ?_
  refine cf_new (c' := 4) (s' := 56) X dX3_init_37 nw_4 m_1_85 rfl rfl ⟨Nat.le_of_ble_eq_true rfl, Nat.le_of_ble_eq_true rfl⟩ fun q4 => ?_
  refine cf_dup X dX3_init_40 rfl ?_
  refine cf_init (q0 := 4) (d := 1) (c' := 4) (s' := 56) (As := []) (isR := [0, 1, 2, 3]) (wr := [(h0, .inr (3, [.ref q1, .ref q2, .int 0, .int 0])), (q1, .inl (gc G 23, 8, .inr (.inr (.inr (.inr (fun _ => none)))))), (q2, .inr (2, [.ref (b3 0), .int 0])), (b3 0, .inl (gc G 20, 40, .inl (fun _ => 0)))]) X dX3_init_41 cmi_X4_init m_1_104 ⟨Nat.le_of_ble_eq_true rfl, Nat.le_of_ble_eq_true rfl⟩ ⟨Nat.le_of_ble_eq_true rfl, Nat.le_of_ble_eq_true rfl⟩ rfl rfl rfl (Nat.le_of_ble_eq_true rfl) rfl rfl ci_X4 rfl rfl rfl (by decide) fun b5 => ?_
  refine cf_aast (q0 := 1) (t0 := 2) (qk := 4) (ci := 4) (r := (RX4, TX4, 6)) (j := 0) (f' := (va_up (fun _ => none) 0 (some q4))) (ws' := [(h0, .inr (3, [.ref q1, .ref q2, .int 0, .int 0])), (q1, .inl (gc G 23, 8, .inr (.inr (.inr (.inr (va_up (fun _ => none) 0 (some q4))))))), (q2, .inr (2, [.ref (b3 0), .int 0])), (b3 0, .inl (gc G 20, 40, .inl (fun _ => 0))), (q4, .inr (4, [.int 0, .int 0, .int 0, .int 0, .int 0, .int 0]))]) X dX3_init_44 rfl rfl rfl rfl (by decide) (vin (n := 0) (by decide)) rfl rfl ?_
  refine cf_iinc (v := 1) (ls' := [some (.ref h0), some (.int 1)]) X dX3_init_45 rfl (by decide) (by decide) rfl rfl ?_
  refine cf_goto (tgt := 26) X dX3_init_48 (by decide) ?_
  refine cf_iload_n X dX3_init_26 rfl rfl ?_
  refine cf_bipush (v := 8) X dX3_init_27 (by decide) ?_
  refine cf_icmp_ge (tgt := 51) X dX3_init_29 (by decide) (fun z => absurd (by decide) z) (fun _ => ?_)
  refine cf_aload_n X dX3_init_32 rfl rfl ?_
  refine cf_get (q0 := 0) X dX3_init_33 fb_3_0 m_1_142 rfl rfl ?_
  refine cf_iload_n X dX3_init_36 rfl rfl ?_
  refine cf_new (c' := 5) (s' := 62) X dX3_init_37 nw_4 m_1_85 rfl rfl ⟨Nat.le_of_ble_eq_true rfl, Nat.le_of_ble_eq_true rfl⟩ fun q6 => ?_
  refine cf_dup X dX3_init_40 rfl ?_
  refine cf_init (q0 := 5) (d := 1) (c' := 5) (s' := 62) (As := []) (isR := [0, 1, 2, 3, 4]) (wr := [(h0, .inr (3, [.ref q1, .ref q2, .int 0, .int 0])), (q1, .inl (gc G 23, 8, .inr (.inr (.inr (.inr (va_up (fun _ => none) 0 (some q4))))))), (q2, .inr (2, [.ref (b3 0), .int 0])), (b3 0, .inl (gc G 20, 40, .inl (fun _ => 0))), (q4, .inr (4, [.int 0, .int 0, .int 0, .int 0, .int 0, .int 0]))]) X dX3_init_41 cmi_X4_init m_1_104 ⟨Nat.le_of_ble_eq_true rfl, Nat.le_of_ble_eq_true rfl⟩ ⟨Nat.le_of_ble_eq_true rfl, Nat.le_of_ble_eq_true rfl⟩ rfl rfl rfl (Nat.le_of_ble_eq_true rfl) rfl rfl ci_X4 rfl rfl rfl (by decide) fun b7 => ?_
  refine cf_aast (q0 := 1) (t0 := 2) (qk := 5) (ci := 4) (r := (RX4, TX4, 6)) (j := 1) (f' := (va_up (va_up (fun _ => none) 0 (some q4)) 1 (some q6))) (ws' := [(h0, .inr (3, [.ref q1, .ref q2, .int 0, .int 0])), (q1, .inl (gc G 23, 8, .inr (.inr (.inr (.inr (va_up (va_up (fun _ => none) 0 (some q4)) 1 (some q6))))))), (q2, .inr (2, [.ref (b3 0), .int 0])), (b3 0, .inl (gc G 20, 40, .inl (fun _ => 0))), (q4, .inr (4, [.int 0, .int 0, .int 0, .int 0, .int 0, .int 0])), (q6, .inr (4, [.int 0, .int 0, .int 0, .int 0, .int 0, .int 0]))]) X dX3_init_44 rfl rfl rfl rfl (by decide) (vin (n := 1) (by decide)) rfl rfl ?_
  refine cf_iinc (v := 2) (ls' := [some (.ref h0), some (.int 2)]) X dX3_init_45 rfl (by decide) (by decide) rfl rfl ?_
  refine cf_goto (tgt := 26) X dX3_init_48 (by decide) ?_
  refine cf_iload_n X dX3_init_26 rfl rfl ?_
  refine cf_bipush (v := 8) X dX3_init_27 (by decide) ?_
  refine cf_icmp_ge (tgt := 51) X dX3_init_29 (by decide) (fun z => absurd (by decide) z) (fun _ => ?_)
  refine cf_aload_n X dX3_init_32 rfl rfl ?_
  refine cf_get (q0 := 0) X dX3_init_33 fb_3_0 m_1_142 rfl rfl ?_
  refine cf_iload_n X dX3_init_36 rfl rfl ?_
  refine cf_new (c' := 6) (s' := 68) X dX3_init_37 nw_4 m_1_85 rfl rfl ⟨Nat.le_of_ble_eq_true rfl, Nat.le_of_ble_eq_true rfl⟩ fun q8 => ?_
  refine cf_dup X dX3_init_40 rfl ?_
  refine cf_init (q0 := 6) (d := 1) (c' := 6) (s' := 68) (As := []) (isR := [0, 1, 2, 3, 4, 5]) (wr := [(h0, .inr (3, [.ref q1, .ref q2, .int 0, .int 0])), (q1, .inl (gc G 23, 8, .inr (.inr (.inr (.inr (va_up (va_up (fun _ => none) 0 (some q4)) 1 (some q6))))))), (q2, .inr (2, [.ref (b3 0), .int 0])), (b3 0, .inl (gc G 20, 40, .inl (fun _ => 0))), (q4, .inr (4, [.int 0, .int 0, .int 0, .int 0, .int 0, .int 0])), (q6, .inr (4, [.int 0, .int 0, .int 0, .int 0, .int 0, .int 0]))]) X dX3_init_41 cmi_X4_init m_1_104 ⟨Nat.le_of_ble_eq_true rfl, Nat.le_of_ble_eq_true rfl⟩ ⟨Nat.le_of_ble_eq_true rfl, Nat.le_of_ble_eq_true rfl⟩ rfl rfl rfl (Nat.le_of_ble_eq_true rfl) rfl rfl ci_X4 rfl rfl rfl (by decide) fun b9 => ?_
  refine cf_aast (q0 := 1) (t0 := 2) (qk := 6) (ci := 4) (r := (RX4, TX4, 6)) (j := 2) (f' := (va_up (va_up (va_up (fun _ => none) 0 (some q4)) 1 (some q6)) 2 (some q8))) (ws' := [(h0, .inr (3, [.ref q1, .ref q2, .int 0, .int 0])), (q1, .inl (gc G 23, 8, .inr (.inr (.inr (.inr (va_up (va_up (va_up (fun _ => none) 0 (some q4)) 1 (some q6)) 2 (some q8))))))), (q2, .inr (2, [.ref (b3 0), .int 0])), (b3 0, .inl (gc G 20, 40, .inl (fun _ => 0))), (q4, .inr (4, [.int 0, .int 0, .int 0, .int 0, .int 0, .int 0])), (q6, .inr (4, [.int 0, .int 0, .int 0, .int 0, .int 0, .int 0])), (q8, .inr (4, [.int 0, .int 0, .int 0, .int 0, .int 0, .int 0]))]) X dX3_init_44 rfl rfl rfl rfl (by decide) (vin (n := 2) (by decide)) rfl rfl ?_
  refine cf_iinc (v := 3) (ls' := [some (.ref h0), some (.int 3)]) X dX3_init_45 rfl (by decide) (by decide) rfl rfl ?_
  refine cf_goto (tgt := 26) X dX3_init_48 (by decide) ?_
  refine cf_iload_n X dX3_init_26 rfl rfl ?_
  refine cf_bipush (v := 8) X dX3_init_27 (by decide) ?_
  refine cf_icmp_ge (tgt := 51) X dX3_init_29 (by decide) (fun z => absurd (by decide) z) (fun _ => ?_)
  refine cf_aload_n X dX3_init_32 rfl rfl ?_
  refine cf_get (q0 := 0) X dX3_init_33 fb_3_0 m_1_142 rfl rfl ?_
  refine cf_iload_n X dX3_init_36 rfl rfl ?_
  refine cf_new (c' := 7) (s' := 74) X dX3_init_37 nw_4 m_1_85 rfl rfl ⟨Nat.le_of_ble_eq_true rfl, Nat.le_of_ble_eq_true rfl⟩ fun q10 => ?_
  refine cf_dup X dX3_init_40 rfl ?_
  refine cf_init (q0 := 7) (d := 1) (c' := 7) (s' := 74) (As := []) (isR := [0, 1, 2, 3, 4, 5, 6]) (wr := [(h0, .inr (3, [.ref q1, .ref q2, .int 0, .int 0])), (q1, .inl (gc G 23, 8, .inr (.inr (.inr (.inr (va_up (va_up (va_up (fun _ => none) 0 (some q4)) 1 (some q6)) 2 (some q8))))))), (q2, .inr (2, [.ref (b3 0), .int 0])), (b3 0, .inl (gc G 20, 40, .inl (fun _ => 0))), (q4, .inr (4, [.int 0, .int 0, .int 0, .int 0, .int 0, .int 0])), (q6, .inr (4, [.int 0, .int 0, .int 0, .int 0, .int 0, .int 0])), (q8, .inr (4, [.int 0, .int 0, .int 0, .int 0, .int 0, .int 0]))]) X dX3_init_41 cmi_X4_init m_1_104 ⟨Nat.le_of_ble_eq_true rfl, Nat.le_of_ble_eq_true rfl⟩ ⟨Nat.le_of_ble_eq_true rfl, Nat.le_of_ble_eq_true rfl⟩ rfl rfl rfl (Nat.le_of_ble_eq_true rfl) rfl rfl ci_X4 rfl rfl rfl (by decide) fun b11 => ?_
  refine cf_aast (q0 := 1) (t0 := 2) (qk := 7) (ci := 4) (r := (RX4, TX4, 6)) (j := 3) (f' := (va_up (va_up (va_up (va_up (fun _ => none) 0 (some q4)) 1 (some q6)) 2 (some q8)) 3 (some q10))) (ws' := [(h0, .inr (3, [.ref q1, .ref q2, .int 0, .int 0])), (q1, .inl (gc G 23, 8, .inr (.inr (.inr (.inr (va_up (va_up (va_up (va_up (fun _ => none) 0 (some q4)) 1 (some q6)) 2 (some q8)) 3 (some q10))))))), (q2, .inr (2, [.ref (b3 0), .int 0])), (b3 0, .inl (gc G 20, 40, .inl (fun _ => 0))), (q4, .inr (4, [.int 0, .int 0, .int 0, .int 0, .int 0, .int 0])), (q6, .inr (4, [.int 0, .int 0, .int 0, .int 0, .int 0, .int 0])), (q8, .inr (4, [.int 0, .int 0, .int 0, .int 0, .int 0, .int 0])), (q10, .inr (4, [.int 0, .int 0, .int 0, .int 0, .int 0, .int 0]))]) X dX3_init_44 rfl rfl rfl rfl (by decide) (vin (n := 3) (by decide)) rfl rfl ?_
  refine cf_iinc (v := 4) (ls' := [some (.ref h0), some (.int 4)]) X dX3_init_45 rfl (by decide) (by decide) rfl rfl ?_
  refine cf_goto (tgt := 26) X dX3_init_48 (by decide) ?_
  refine cf_iload_n X dX3_init_26 rfl rfl ?_
  refine cf_bipush (v := 8) X dX3_init_27 (by decide) ?_
  refine cf_icmp_ge (tgt := 51) X dX3_init_29 (by decide) (fun z => absurd (by decide) z) (fun _ => ?_)
  refine cf_aload_n X dX3_init_32 rfl rfl ?_
  refine cf_get (q0 := 0) X dX3_init_33 fb_3_0 m_1_142 rfl rfl ?_
  refine cf_iload_n X dX3_init_36 rfl rfl ?_
  refine cf_new (c' := 8) (s' := 80) X dX3_init_37 nw_4 m_1_85 rfl rfl ⟨Nat.le_of_ble_eq_true rfl, Nat.le_of_ble_eq_true rfl⟩ fun q12 => ?_
  refine cf_dup X dX3_init_40 rfl ?_
  refine cf_init (q0 := 8) (d := 1) (c' := 8) (s' := 80) (As := []) (isR := [0, 1, 2, 3, 4, 5, 6, 7]) (wr := [(h0, .inr (3, [.ref q1, .ref q2, .int 0, .int 0])), (q1, .inl (gc G 23, 8, .inr (.inr (.inr (.inr (va_up (va_up (va_up (va_up (fun _ => none) 0 (some q4)) 1 (some q6)) 2 (some q8)) 3 (some q10))))))), (q2, .inr (2, [.ref (b3 0), .int 0])), (b3 0, .inl (gc G 20, 40, .inl (fun _ => 0))), (q4, .inr (4, [.int 0, .int 0, .int 0, .int 0, .int 0, .int 0])), (q6, .inr (4, [.int 0, .int 0, .int 0, .int 0, .int 0, .int 0])), (q8, .inr (4, [.int 0, .int 0, .int 0, .int 0, .int 0, .int 0])), (q10, .inr (4, [.int 0, .int 0, .int 0, .int 0, .int 0, .int 0]))]) X dX3_init_41 cmi_X4_init m_1_104 ⟨Nat.le_of_ble_eq_true rfl, Nat.le_of_ble_eq_true rfl⟩ ⟨Nat.le_of_ble_eq_true rfl, Nat.le_of_ble_eq_true rfl⟩ rfl rfl rfl (Nat.le_of_ble_eq_true rfl) rfl rfl ci_X4 rfl rfl rfl (by decide) fun b13 => ?_
  refine cf_aast (q0 := 1) (t0 := 2) (qk := 8) (ci := 4) (r := (RX4, TX4, 6)) (j := 4) (f' := (va_up (va_up (va_up (va_up (va_up (fun _ => none) 0 (some q4)) 1 (some q6)) 2 (some q8)) 3 (some q10)) 4 (some q12))) (ws' := [(h0, .inr (3, [.ref q1, .ref q2, .int 0, .int 0])), (q1, .inl (gc G 23, 8, .inr (.inr (.inr (.inr (va_up (va_up (va_up (va_up (va_up (fun _ => none) 0 (some q4)) 1 (some q6)) 2 (some q8)) 3 (some q10)) 4 (some q12))))))), (q2, .inr (2, [.ref (b3 0), .int 0])), (b3 0, .inl (gc G 20, 40, .inl (fun _ => 0))), (q4, .inr (4, [.int 0, .int 0, .int 0, .int 0, .int 0, .int 0])), (q6, .inr (4, [.int 0, .int 0, .int 0, .int 0, .int 0, .int 0])), (q8, .inr (4, [.int 0, .int 0, .int 0, .int 0, .int 0, .int 0])), (q10, .inr (4, [.int 0, .int 0, .int 0, .int 0, .int 0, .int 0])), (q12, .inr (4, [.int 0, .int 0, .int 0, .int 0, .int 0, .int 0]))]) X dX3_init_44 rfl rfl rfl rfl (by decide) (vin (n := 4) (by decide)) rfl rfl ?_
  refine cf_iinc (v := 5) (ls' := [some (.ref h0), some (.int 5)]) X dX3_init_45 rfl (by decide) (by decide) rfl rfl ?_
  refine cf_goto (tgt := 26) X dX3_init_48 (by decide) ?_
  refine cf_iload_n X dX3_init_26 rfl rfl ?_
  refine cf_bipush (v := 8) X dX3_init_27 (by decide) ?_
  refine cf_icmp_ge (tgt := 51) X dX3_init_29 (by decide) (fun z => absurd (by decide) z) (fun _ => ?_)
  refine cf_aload_n X dX3_init_32 rfl rfl ?_
  refine cf_get (q0 := 0) X dX3_init_33 fb_3_0 m_1_142 rfl rfl ?_
  refine cf_iload_n X dX3_init_36 rfl rfl ?_
  refine cf_new (c' := 9) (s' := 86) X dX3_init_37 nw_4 m_1_85 rfl rfl ⟨Nat.le_of_ble_eq_true rfl, Nat.le_of_ble_eq_true rfl⟩ fun q14 => ?_
  refine cf_dup X dX3_init_40 rfl ?_
  refine cf_init (q0 := 9) (d := 1) (c' := 9) (s' := 86) (As := []) (isR := [0, 1, 2, 3, 4, 5, 6, 7, 8]) (wr := [(h0, .inr (3, [.ref q1, .ref q2, .int 0, .int 0])), (q1, .inl (gc G 23, 8, .inr (.inr (.inr (.inr (va_up (va_up (va_up (va_up (va_up (fun _ => none) 0 (some q4)) 1 (some q6)) 2 (some q8)) 3 (some q10)) 4 (some q12))))))), (q2, .inr (2, [.ref (b3 0), .int 0])), (b3 0, .inl (gc G 20, 40, .inl (fun _ => 0))), (q4, .inr (4, [.int 0, .int 0, .int 0, .int 0, .int 0, .int 0])), (q6, .inr (4, [.int 0, .int 0, .int 0, .int 0, .int 0, .int 0])), (q8, .inr (4, [.int 0, .int 0, .int 0, .int 0, .int 0, .int 0])), (q10, .inr (4, [.int 0, .int 0, .int 0, .int 0, .int 0, .int 0])), (q12, .inr (4, [.int 0, .int 0, .int 0, .int 0, .int 0, .int 0]))]) X dX3_init_41 cmi_X4_init m_1_104 ⟨Nat.le_of_ble_eq_true rfl, Nat.le_of_ble_eq_true rfl⟩ ⟨Nat.le_of_ble_eq_true rfl, Nat.le_of_ble_eq_true rfl⟩ rfl rfl rfl (Nat.le_of_ble_eq_true rfl) rfl rfl ci_X4 rfl rfl rfl (by decide) fun b15 => ?_
  refine cf_aast (q0 := 1) (t0 := 2) (qk := 9) (ci := 4) (r := (RX4, TX4, 6)) (j := 5) (f' := (va_up (va_up (va_up (va_up (va_up (va_up (fun _ => none) 0 (some q4)) 1 (some q6)) 2 (some q8)) 3 (some q10)) 4 (some q12)) 5 (some q14))) (ws' := [(h0, .inr (3, [.ref q1, .ref q2, .int 0, .int 0])), (q1, .inl (gc G 23, 8, .inr (.inr (.inr (.inr (va_up (va_up (va_up (va_up (va_up (va_up (fun _ => none) 0 (some q4)) 1 (some q6)) 2 (some q8)) 3 (some q10)) 4 (some q12)) 5 (some q14))))))), (q2, .inr (2, [.ref (b3 0), .int 0])), (b3 0, .inl (gc G 20, 40, .inl (fun _ => 0))), (q4, .inr (4, [.int 0, .int 0, .int 0, .int 0, .int 0, .int 0])), (q6, .inr (4, [.int 0, .int 0, .int 0, .int 0, .int 0, .int 0])), (q8, .inr (4, [.int 0, .int 0, .int 0, .int 0, .int 0, .int 0])), (q10, .inr (4, [.int 0, .int 0, .int 0, .int 0, .int 0, .int 0])), (q12, .inr (4, [.int 0, .int 0, .int 0, .int 0, .int 0, .int 0])), (q14, .inr (4, [.int 0, .int 0, .int 0, .int 0, .int 0, .int 0]))]) X dX3_init_44 rfl rfl rfl rfl (by decide) (vin (n := 5) (by decide)) rfl rfl ?_
  refine cf_iinc (v := 6) (ls' := [some (.ref h0), some (.int 6)]) X dX3_init_45 rfl (by decide) (by decide) rfl rfl ?_
  refine cf_goto (tgt := 26) X dX3_init_48 (by decide) ?_
  refine cf_iload_n X dX3_init_26 rfl rfl ?_
  refine cf_bipush (v := 8) X dX3_init_27 (by decide) ?_
  refine cf_icmp_ge (tgt := 51) X dX3_init_29 (by decide) (fun z => absurd (by decide) z) (fun _ => ?_)
  refine cf_aload_n X dX3_init_32 rfl rfl ?_
  refine cf_get (q0 := 0) X dX3_init_33 fb_3_0 m_1_142 rfl rfl ?_
  refine cf_iload_n X dX3_init_36 rfl rfl ?_
  refine cf_new (c' := 10) (s' := 92) X dX3_init_37 nw_4 m_1_85 rfl rfl ⟨Nat.le_of_ble_eq_true rfl, Nat.le_of_ble_eq_true rfl⟩ fun q16 => ?_
  refine cf_dup X dX3_init_40 rfl ?_
  refine cf_init (q0 := 10) (d := 1) (c' := 10) (s' := 92) (As := []) (isR := [0, 1, 2, 3, 4, 5, 6, 7, 8, 9]) (wr := [(h0, .inr (3, [.ref q1, .ref q2, .int 0, .int 0])), (q1, .inl (gc G 23, 8, .inr (.inr (.inr (.inr (va_up (va_up (va_up (va_up (va_up (va_up (fun _ => none) 0 (some q4)) 1 (some q6)) 2 (some q8)) 3 (some q10)) 4 (some q12)) 5 (some q14))))))), (q2, .inr (2, [.ref (b3 0), .int 0])), (b3 0, .inl (gc G 20, 40, .inl (fun _ => 0))), (q4, .inr (4, [.int 0, .int 0, .int 0, .int 0, .int 0, .int 0])), (q6, .inr (4, [.int 0, .int 0, .int 0, .int 0, .int 0, .int 0])), (q8, .inr (4, [.int 0, .int 0, .int 0, .int 0, .int 0, .int 0])), (q10, .inr (4, [.int 0, .int 0, .int 0, .int 0, .int 0, .int 0])), (q12, .inr (4, [.int 0, .int 0, .int 0, .int 0, .int 0, .int 0])), (q14, .inr (4, [.int 0, .int 0, .int 0, .int 0, .int 0, .int 0]))]) X dX3_init_41 cmi_X4_init m_1_104 ⟨Nat.le_of_ble_eq_true rfl, Nat.le_of_ble_eq_true rfl⟩ ⟨Nat.le_of_ble_eq_true rfl, Nat.le_of_ble_eq_true rfl⟩ rfl rfl rfl (Nat.le_of_ble_eq_true rfl) rfl rfl ci_X4 rfl rfl rfl (by decide) fun b17 => ?_
  refine cf_aast (q0 := 1) (t0 := 2) (qk := 10) (ci := 4) (r := (RX4, TX4, 6)) (j := 6) (f' := (va_up (va_up (va_up (va_up (va_up (va_up (va_up (fun _ => none) 0 (some q4)) 1 (some q6)) 2 (some q8)) 3 (some q10)) 4 (some q12)) 5 (some q14)) 6 (some q16))) (ws' := [(h0, .inr (3, [.ref q1, .ref q2, .int 0, .int 0])), (q1, .inl (gc G 23, 8, .inr (.inr (.inr (.inr (va_up (va_up (va_up (va_up (va_up (va_up (va_up (fun _ => none) 0 (some q4)) 1 (some q6)) 2 (some q8)) 3 (some q10)) 4 (some q12)) 5 (some q14)) 6 (some q16))))))), (q2, .inr (2, [.ref (b3 0), .int 0])), (b3 0, .inl (gc G 20, 40, .inl (fun _ => 0))), (q4, .inr (4, [.int 0, .int 0, .int 0, .int 0, .int 0, .int 0])), (q6, .inr (4, [.int 0, .int 0, .int 0, .int 0, .int 0, .int 0])), (q8, .inr (4, [.int 0, .int 0, .int 0, .int 0, .int 0, .int 0])), (q10, .inr (4, [.int 0, .int 0, .int 0, .int 0, .int 0, .int 0])), (q12, .inr (4, [.int 0, .int 0, .int 0, .int 0, .int 0, .int 0])), (q14, .inr (4, [.int 0, .int 0, .int 0, .int 0, .int 0, .int 0])), (q16, .inr (4, [.int 0, .int 0, .int 0, .int 0, .int 0, .int 0]))]) X dX3_init_44 rfl rfl rfl rfl (by decide) (vin (n := 6) (by decide)) rfl rfl ?_
  refine cf_iinc (v := 7) (ls' := [some (.ref h0), some (.int 7)]) X dX3_init_45 rfl (by decide) (by decide) rfl rfl ?_
  refine cf_goto (tgt := 26) X dX3_init_48 (by decide) ?_
  refine cf_iload_n X dX3_init_26 rfl rfl ?_
  refine cf_bipush (v := 8) X dX3_init_27 (by decide) ?_
  refine cf_icmp_ge (tgt := 51) X dX3_init_29 (by decide) (fun z => absurd (by decide) z) (fun _ => ?_)
  refine cf_aload_n X dX3_init_32 rfl rfl ?_
  refine cf_get (q0 := 0) X dX3_init_33 fb_3_0 m_1_142 rfl rfl ?_
  refine cf_iload_n X dX3_init_36 rfl rfl ?_
  refine cf_new (c' := 11) (s' := 98) X dX3_init_37 nw_4 m_1_85 rfl rfl ⟨Nat.le_of_ble_eq_true rfl, Nat.le_of_ble_eq_true rfl⟩ fun q18 => ?_
  refine cf_dup X dX3_init_40 rfl ?_
  refine cf_init (q0 := 11) (d := 1) (c' := 11) (s' := 98) (As := []) (isR := [0, 1, 2, 3, 4, 5, 6, 7, 8, 9, 10]) (wr := [(h0, .inr (3, [.ref q1, .ref q2, .int 0, .int 0])), (q1, .inl (gc G 23, 8, .inr (.inr (.inr (.inr (va_up (va_up (va_up (va_up (va_up (va_up (va_up (fun _ => none) 0 (some q4)) 1 (some q6)) 2 (some q8)) 3 (some q10)) 4 (some q12)) 5 (some q14)) 6 (some q16))))))), (q2, .inr (2, [.ref (b3 0), .int 0])), (b3 0, .inl (gc G 20, 40, .inl (fun _ => 0))), (q4, .inr (4, [.int 0, .int 0, .int 0, .int 0, .int 0, .int 0])), (q6, .inr (4, [.int 0, .int 0, .int 0, .int 0, .int 0, .int 0])), (q8, .inr (4, [.int 0, .int 0, .int 0, .int 0, .int 0, .int 0])), (q10, .inr (4, [.int 0, .int 0, .int 0, .int 0, .int 0, .int 0])), (q12, .inr (4, [.int 0, .int 0, .int 0, .int 0, .int 0, .int 0])), (q14, .inr (4, [.int 0, .int 0, .int 0, .int 0, .int 0, .int 0])), (q16, .inr (4, [.int 0, .int 0, .int 0, .int 0, .int 0, .int 0]))]) X dX3_init_41 cmi_X4_init m_1_104 ⟨Nat.le_of_ble_eq_true rfl, Nat.le_of_ble_eq_true rfl⟩ ⟨Nat.le_of_ble_eq_true rfl, Nat.le_of_ble_eq_true rfl⟩ rfl rfl rfl (Nat.le_of_ble_eq_true rfl) rfl rfl ci_X4 rfl rfl rfl (by decide) fun b19 => ?_
  refine cf_aast (q0 := 1) (t0 := 2) (qk := 11) (ci := 4) (r := (RX4, TX4, 6)) (j := 7) (f' := (va_up (va_up (va_up (va_up (va_up (va_up (va_up (va_up (fun _ => none) 0 (some q4)) 1 (some q6)) 2 (some q8)) 3 (some q10)) 4 (some q12)) 5 (some q14)) 6 (some q16)) 7 (some q18))) (ws' := [(h0, .inr (3, [.ref q1, .ref q2, .int 0, .int 0])), (q1, .inl (gc G 23, 8, .inr (.inr (.inr (.inr (va_up (va_up (va_up (va_up (va_up (va_up (va_up (va_up (fun _ => none) 0 (some q4)) 1 (some q6)) 2 (some q8)) 3 (some q10)) 4 (some q12)) 5 (some q14)) 6 (some q16)) 7 (some q18))))))), (q2, .inr (2, [.ref (b3 0), .int 0])), (b3 0, .inl (gc G 20, 40, .inl (fun _ => 0))), (q4, .inr (4, [.int 0, .int 0, .int 0, .int 0, .int 0, .int 0])), (q6, .inr (4, [.int 0, .int 0, .int 0, .int 0, .int 0, .int 0])), (q8, .inr (4, [.int 0, .int 0, .int 0, .int 0, .int 0, .int 0])), (q10, .inr (4, [.int 0, .int 0, .int 0, .int 0, .int 0, .int 0])), (q12, .inr (4, [.int 0, .int 0, .int 0, .int 0, .int 0, .int 0])), (q14, .inr (4, [.int 0, .int 0, .int 0, .int 0, .int 0, .int 0])), (q16, .inr (4, [.int 0, .int 0, .int 0, .int 0, .int 0, .int 0])), (q18, .inr (4, [.int 0, .int 0, .int 0, .int 0, .int 0, .int 0]))]) X dX3_init_44 rfl rfl rfl rfl (by decide) (vin (n := 7) (by decide)) rfl rfl ?_
  refine cf_iinc (v := 8) (ls' := [some (.ref h0), some (.int 8)]) X dX3_init_45 rfl (by decide) (by decide) rfl rfl ?_
  refine cf_goto (tgt := 26) X dX3_init_48 (by decide) ?_
  refine cf_iload_n X dX3_init_26 rfl rfl ?_
  refine cf_bipush (v := 8) X dX3_init_27 (by decide) ?_
  refine cf_icmp_ge (tgt := 51) X dX3_init_29 (by decide) (fun _ => ?_) (fun z => absurd z (by decide))
  exact cf_vret X (fun i => ([q1, q2, b3 0, q4, q6, q8, q10, q12, q14, q16, q18] : List Nat).getD i 0) dX3_init_51 hr hk rfl rfl rfl
def Y_X0_init : MY := (yX0_init, cX0_init, 1, none)
theorem cmi_X0_init : CMI Y_X0_init 0 := ⟨⟨m_1_198, m_1_9, ⟨by decide +kernel, by decide +kernel, by decide +kernel⟩, by decide⟩, m_1_197, rfl, rfl⟩
theorem nw_3 : NW 3 "DrawerGloves$Drawer" 4 [.null, .null, .int 0, .int 0] := ⟨TX3, tyX3, rfl, inX3, tyX3_ok, fun j hj => (lt_s (lt_s (lt_s (lt_s lt_0 rfl) rfl) rfl) rfl : ∀ j, j < 4 → defaultValue (tyX3 j) = vp_V [.null, .null, .int 0, .int 0] j) j hj, m_1_80, m_1_5⟩
theorem fq_0_0 : FQ 0 0 "DrawerGloves$Calendar" "worn" "LDrawerGloves$Drawer;" true (.object "DrawerGloves$Drawer") := ⟨_, _, _, tyX0, rfl, inX0, by decide, rfl, rfl, rfl, tyX0_ok, nmX0, rfl, by decide +kernel⟩
theorem fq_0_1 : FQ 0 1 "DrawerGloves$Calendar" "codes" "[I" true (.array .int) := ⟨_, _, _, tyX0, rfl, inX0, by decide, rfl, rfl, rfl, tyX0_ok, nmX0, rfl, by decide +kernel⟩
theorem fq_0_2 : FQ 0 2 "DrawerGloves$Calendar" "way" "[I" true (.array .int) := ⟨_, _, _, tyX0, rfl, inX0, by decide, rfl, rfl, rfl, tyX0_ok, nmX0, rfl, by decide +kernel⟩
theorem fq_0_3 : FQ 0 3 "DrawerGloves$Calendar" "bestWay" "[I" true (.array .int) := ⟨_, _, _, tyX0, rfl, inX0, by decide, rfl, rfl, rfl, tyX0_ok, nmX0, rfl, by decide +kernel⟩
def W_X0 (G : Glob) (h0 : Nat) (b : Nat → Nat) : va_W := [(h0, .inr (0, [.ref (b 0), .ref (b 12), .ref (b 13), .ref (b 14), .int 0, .int 0, .int 0])), (b 0, .inr (3, [.ref (b 1), .ref (b 2), .int 0, .int 0])), (b 1, .inl (gc G 23, 8, .inr (.inr (.inr (.inr (va_up (va_up (va_up (va_up (va_up (va_up (va_up (va_up (fun _ => none) 0 (some (b 4))) 1 (some (b 5))) 2 (some (b 6))) 3 (some (b 7))) 4 (some (b 8))) 5 (some (b 9))) 6 (some (b 10))) 7 (some (b 11)))))))), (b 2, .inr (2, [.ref (b 3), .int 0])), (b 3, .inl (gc G 20, 40, .inl (fun _ => 0))), (b 4, .inr (4, [.int 0, .int 0, .int 0, .int 0, .int 0, .int 0])), (b 5, .inr (4, [.int 0, .int 0, .int 0, .int 0, .int 0, .int 0])), (b 6, .inr (4, [.int 0, .int 0, .int 0, .int 0, .int 0, .int 0])), (b 7, .inr (4, [.int 0, .int 0, .int 0, .int 0, .int 0, .int 0])), (b 8, .inr (4, [.int 0, .int 0, .int 0, .int 0, .int 0, .int 0])), (b 9, .inr (4, [.int 0, .int 0, .int 0, .int 0, .int 0, .int 0])), (b 10, .inr (4, [.int 0, .int 0, .int 0, .int 0, .int 0, .int 0])), (b 11, .inr (4, [.int 0, .int 0, .int 0, .int 0, .int 0, .int 0])), (b 12, .inl (gc G 20, 64, .inl (fun _ => 0))), (b 13, .inl (gc G 20, 3, .inl (fun _ => 0))), (b 14, .inl (gc G 20, 3, .inl (fun _ => 0)))]
set_option maxRecDepth 20000 in
theorem ci_X0 {G : Glob} : Ci G 3 Y_X0_init 15 172 (.inr (0, [.null, .null, .null, .null, .int 0, .int 0, .int 0])) [] (W_X0 G) := by
  refine cf_enter (ls0 := fun h0 => [some (.ref h0)]) (by decide +kernel) rfl rfl (fun _ => Nat.le_of_ble_eq_true rfl) (fun _ => rfl) ?_
  intro h0 p e s m args below meth c X hr hk hn
  refine cf_aload_n X dX0_init_0 rfl rfl ?_
  refine cf_obj X m_1_199 ⟨m_1_21, m_1_22⟩ dX0_init_1 ⟨Nat.le_of_ble_eq_true rfl, Nat.le_of_ble_eq_true rfl⟩ (Nat.le_of_ble_eq_true rfl) ?_
  refine cf_aload_n X dX0_init_4 rfl rfl ?_
  refine cf_new (c' := 1) (s' := 4) X dX0_init_5 nw_3 m_1_200 rfl rfl ⟨Nat.le_of_ble_eq_true rfl, Nat.le_of_ble_eq_true rfl⟩ fun q1 => ?_
  refine cf_dup X dX0_init_8 rfl ?_
  refine cf_init (q0 := 1) (d := 2) (c' := 12) (s' := 102) (As := []) (isR := [0]) (wr := [(h0, .inr (0, [.null, .null, .null, .null, .int 0, .int 0, .int 0]))]) X dX0_init_9 cmi_X3_init m_1_201 ⟨Nat.le_of_ble_eq_true rfl, Nat.le_of_ble_eq_true rfl⟩ ⟨Nat.le_of_ble_eq_true rfl, Nat.le_of_ble_eq_true rfl⟩ rfl rfl rfl (Nat.le_of_ble_eq_true rfl) rfl rfl ci_X3 rfl rfl rfl (by decide) fun b2 => ?_
  refine cf_putF (q0 := 0) (ws' := [(h0, .inr (0, [.ref q1, .null, .null, .null, .int 0, .int 0, .int 0])), (q1, .inr (3, [.ref (b2 0), .ref (b2 1), .int 0, .int 0])), (b2 0, .inl (gc G 23, 8, .inr (.inr (.inr (.inr (va_up (va_up (va_up (va_up (va_up (va_up (va_up (va_up (fun _ => none) 0 (some (b2 3))) 1 (some (b2 4))) 2 (some (b2 5))) 3 (some (b2 6))) 4 (some (b2 7))) 5 (some (b2 8))) 6 (some (b2 9))) 7 (some (b2 10)))))))), (b2 1, .inr (2, [.ref (b2 2), .int 0])), (b2 2, .inl (gc G 20, 40, .inl (fun _ => 0))), (b2 3, .inr (4, [.int 0, .int 0, .int 0, .int 0, .int 0, .int 0])), (b2 4, .inr (4, [.int 0, .int 0, .int 0, .int 0, .int 0, .int 0])), (b2 5, .inr (4, [.int 0, .int 0, .int 0, .int 0, .int 0, .int 0])), (b2 6, .inr (4, [.int 0, .int 0, .int 0, .int 0, .int 0, .int 0])), (b2 7, .inr (4, [.int 0, .int 0, .int 0, .int 0, .int 0, .int 0])), (b2 8, .inr (4, [.int 0, .int 0, .int 0, .int 0, .int 0, .int 0])), (b2 9, .inr (4, [.int 0, .int 0, .int 0, .int 0, .int 0, .int 0])), (b2 10, .inr (4, [.int 0, .int 0, .int 0, .int 0, .int 0, .int 0]))]) X hn dX0_init_12 fq_0_0 m_1_202 rfl (Nat.le_of_ble_eq_true rfl) rfl rfl rfl ?_
  refine cf_aload_n X dX0_init_15 rfl rfl ?_
  refine cf_bipush (v := 64) X dX0_init_16 (by decide) ?_
  refine cf_newaI (N := 64) (c' := 13) (s' := 166) X dX0_init_18 (by decide) (by decide) (Nat.le_of_ble_eq_true rfl) rfl rfl ⟨Nat.le_of_ble_eq_true rfl, Nat.le_of_ble_eq_true rfl⟩ fun q3 => ?_
  refine cf_putF (q0 := 0) (ws' := [(h0, .inr (0, [.ref q1, .ref q3, .null, .null, .int 0, .int 0, .int 0])), (q1, .inr (3, [.ref (b2 0), .ref (b2 1), .int 0, .int 0])), (b2 0, .inl (gc G 23, 8, .inr (.inr (.inr (.inr (va_up (va_up (va_up (va_up (va_up (va_up (va_up (va_up (fun _ => none) 0 (some (b2 3))) 1 (some (b2 4))) 2 (some (b2 5))) 3 (some (b2 6))) 4 (some (b2 7))) 5 (some (b2 8))) 6 (some (b2 9))) 7 (some (b2 10)))))))), (b2 1, .inr (2, [.ref (b2 2), .int 0])), (b2 2, .inl (gc G 20, 40, .inl (fun _ => 0))), (b2 3, .inr (4, [.int 0, .int 0, .int 0, .int 0, .int 0, .int 0])), (b2 4, .inr (4, [.int 0, .int 0, .int 0, .int 0, .int 0, .int 0])), (b2 5, .inr (4, [.int 0, .int 0, .int 0, .int 0, .int 0, .int 0])), (b2 6, .inr (4, [.int 0, .int 0, .int 0, .int 0, .int 0, .int 0])), (b2 7, .inr (4, [.int 0, .int 0, .int 0, .int 0, .int 0, .int 0])), (b2 8, .inr (4, [.int 0, .int 0, .int 0, .int 0, .int 0, .int 0])), (b2 9, .inr (4, [.int 0, .int 0, .int 0, .int 0, .int 0, .int 0])), (b2 10, .inr (4, [.int 0, .int 0, .int 0, .int 0, .int 0, .int 0])), (q3, .inl (gc G 20, 64, .inl (fun _ => 0)))]) X hn dX0_init_20 fq_0_1 m_1_203 rfl (Nat.le_of_ble_eq_true rfl) rfl rfl rfl ?_
  refine cf_aload_n X dX0_init_23 rfl rfl ?_
  refine cf_iconst (v := 3) X dX0_init_24 (by decide) ?_
  refine cf_newaI (N := 3) (c' := 14) (s' := 169) X dX0_init_25 (by decide) (by decide) (Nat.le_of_ble_eq_true rfl) rfl rfl ⟨Nat.le_of_ble_eq_true rfl, Nat.le_of_ble_eq_true rfl⟩ fun q4 => ?_
  refine cf_putF (q0 := 0) (ws' := [(h0, .inr (0, [.ref q1, .ref q3, .ref q4, .null, .int 0, .int 0, .int 0])), (q1, .inr (3, [.ref (b2 0), .ref (b2 1), .int 0, .int 0])), (b2 0, .inl (gc G 23, 8, .inr (.inr (.inr (.inr (va_up (va_up (va_up (va_up (va_up (va_up (va_up (va_up (fun _ => none) 0 (some (b2 3))) 1 (some (b2 4))) 2 (some (b2 5))) 3 (some (b2 6))) 4 (some (b2 7))) 5 (some (b2 8))) 6 (some (b2 9))) 7 (some (b2 10)))))))), (b2 1, .inr (2, [.ref (b2 2), .int 0])), (b2 2, .inl (gc G 20, 40, .inl (fun _ => 0))), (b2 3, .inr (4, [.int 0, .int 0, .int 0, .int 0, .int 0, .int 0])), (b2 4, .inr (4, [.int 0, .int 0, .int 0, .int 0, .int 0, .int 0])), (b2 5, .inr (4, [.int 0, .int 0, .int 0, .int 0, .int 0, .int 0])), (b2 6, .inr (4, [.int 0, .int 0, .int 0, .int 0, .int 0, .int 0])), (b2 7, .inr (4, [.int 0, .int 0, .int 0, .int 0, .int 0, .int 0])), (b2 8, .inr (4, [.int 0, .int 0, .int 0, .int 0, .int 0, .int 0])), (b2 9, .inr (4, [.int 0, .int 0, .int 0, .int 0, .int 0, .int 0])), (b2 10, .inr (4, [.int 0, .int 0, .int 0, .int 0, .int 0, .int 0])), (q3, .inl (gc G 20, 64, .inl (fun _ => 0))), (q4, .inl (gc G 20, 3, .inl (fun _ => 0)))]) X hn dX0_init_27 fq_0_2 m_1_204 rfl (Nat.le_of_ble_eq_true rfl) rfl rfl rfl ?_
  refine cf_aload_n X dX0_init_30 rfl rfl ?_
  refine cf_iconst (v := 3) X dX0_init_31 (by decide) ?_
  refine cf_newaI (N := 3) (c' := 15) (s' := 172) X dX0_init_32 (by decide) (by decide) (Nat.le_of_ble_eq_true rfl) rfl rfl ⟨Nat.le_of_ble_eq_true rfl, Nat.le_of_ble_eq_true rfl⟩ fun q5 => ?_
  refine cf_putF (q0 := 0) (ws' := [(h0, .inr (0, [.ref q1, .ref q3, .ref q4, .ref q5, .int 0, .int 0, .int 0])), (q1, .inr (3, [.ref (b2 0), .ref (b2 1), .int 0, .int 0])), (b2 0, .inl (gc G 23, 8, .inr (.inr (.inr (.inr (va_up (va_up (va_up (va_up (va_up (va_up (va_up (va_up (fun _ => none) 0 (some (b2 3))) 1 (some (b2 4))) 2 (some (b2 5))) 3 (some (b2 6))) 4 (some (b2 7))) 5 (some (b2 8))) 6 (some (b2 9))) 7 (some (b2 10)))))))), (b2 1, .inr (2, [.ref (b2 2), .int 0])), (b2 2, .inl (gc G 20, 40, .inl (fun _ => 0))), (b2 3, .inr (4, [.int 0, .int 0, .int 0, .int 0, .int 0, .int 0])), (b2 4, .inr (4, [.int 0, .int 0, .int 0, .int 0, .int 0, .int 0])), (b2 5, .inr (4, [.int 0, .int 0, .int 0, .int 0, .int 0, .int 0])), (b2 6, .inr (4, [.int 0, .int 0, .int 0, .int 0, .int 0, .int 0])), (b2 7, .inr (4, [.int 0, .int 0, .int 0, .int 0, .int 0, .int 0])), (b2 8, .inr (4, [.int 0, .int 0, .int 0, .int 0, .int 0, .int 0])), (b2 9, .inr (4, [.int 0, .int 0, .int 0, .int 0, .int 0, .int 0])), (b2 10, .inr (4, [.int 0, .int 0, .int 0, .int 0, .int 0, .int 0])), (q3, .inl (gc G 20, 64, .inl (fun _ => 0))), (q4, .inl (gc G 20, 3, .inl (fun _ => 0))), (q5, .inl (gc G 20, 3, .inl (fun _ => 0)))]) X hn dX0_init_34 fq_0_3 m_1_205 rfl (Nat.le_of_ble_eq_true rfl) rfl rfl rfl ?_
  exact cf_vret X (fun i => ([q1, b2 0, b2 1, b2 2, b2 3, b2 4, b2 5, b2 6, b2 7, b2 8, b2 9, b2 10, q3, q4, q5] : List Nat).getD i 0) dX0_init_37 hr hk rfl rfl rfl
