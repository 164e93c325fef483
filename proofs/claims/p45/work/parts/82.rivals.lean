theorem fq_8_0 : FQ 8 0 "DrawerGloves$Rivals" "known" "[I" true (.array .int) := ⟨_, _, _, tyX8, rfl, inX8, by decide, rfl, rfl, rfl, tyX8_ok, nmX8, rfl, by decide +kernel⟩
theorem fq_8_1 : FQ 8 1 "DrawerGloves$Rivals" "inThrees" "[I" true (.array .int) := ⟨_, _, _, tyX8, rfl, inX8, by decide, rfl, rfl, rfl, tyX8_ok, nmX8, rfl, by decide +kernel⟩
theorem nw_8 : NW 8 "DrawerGloves$Rivals" 2 [.null, .null] := ⟨TX8, tyX8, rfl, inX8, tyX8_ok, fun j hj => (lt_s (lt_s lt_0 rfl) rfl : ∀ j, j < 2 → defaultValue (tyX8 j) = vp_V [.null, .null] j) j hj, m_2_0, m_1_11⟩
def thr3 (n : Nat) : Nat → Int32 := fun m => if m < n then nI (th3 8 m) else 0
set_option maxRecDepth 100000 in
theorem th3_tab : ∀ i, i < 256 → th3 8 i = 3 * th3 8 (i / 2) + i % 2 := by decide +kernel
theorem thr3_s {i : Nat} (hi : i < 256) (h1 : 1 ≤ i) : upd (thr3 i) i (3 * thr3 i (i / 2) + nI (i % 2)) = thr3 (i + 1) := by
  funext m
  unfold thr3 upd
  by_cases c : m = i
  · subst c
    rw [if_pos rfl, if_pos (by omega), if_pos (by omega), show (3 : Int32) = nI 3 from rfl, pk_mul, nI_add, th3_tab m hi]
  · rw [if_neg c]
    show (if m < i then nI (th3 8 m) else 0) = _
    by_cases d : m < i
    · rw [if_pos d, if_pos (by omega)]
    · rw [if_neg d, if_neg (by omega)]
theorem thr3_1 : thr3 1 = fun _ => 0 := by
  funext m
  unfold thr3
  by_cases c : m < 1
  · have : m = 0 := by omega
    subst this
    rfl
  · rw [if_neg c]
def Y_X8_init : MY := (yX8_init, cX8_init, 2, none)
theorem cmi_X8_init : CMI Y_X8_init 0 := ⟨⟨m_2_3, m_1_11, ⟨by decide +kernel, by decide +kernel, by decide +kernel⟩, by decide⟩, m_2_2, rfl, rfl⟩
section RIV
variable {p : Program} {l : Launch} {e : Env} {R : Room} {s : State} {m : MethodId} {args : Array Value} {below : List Frame} {meth : Method} {c : Code} {cells slots : Nat} {Qf : State → Prop} {G : Glob} {A : Nat → Prop}
theorem rv_loop (X : CxC p s m args c G cX8_init 2 RX8 A) {h0 q1 q2 : Nat} (K : Cf p l e R s m args below meth c G A Qf 2 cells slots 57 [some (.ref h0), some (.int (nI 256))] [] [(h0, .inr (8, [.ref q1, .ref q2])), (q1, .inl (gc G 20, 6561, .inl (fun _ => 0))), (q2, .inl (gc G 20, 256, .inl (thr3 256)))]) :
    ∀ (k i : Nat), i + k = 256 → 1 ≤ i → Cf p l e R s m args below meth c G A Qf 2 cells slots 24 [some (.ref h0), some (.int (nI i))] [] [(h0, .inr (8, [.ref q1, .ref q2])), (q1, .inl (gc G 20, 6561, .inl (fun _ => 0))), (q2, .inl (gc G 20, 256, .inl (thr3 i)))] := by
  intro k
  induction k with
  | zero =>
    intro i hi _
    have : i = 256 := by omega
    subst this
    refine cf_iload_n X dX8_init_24 rfl rfl ?_
    refine cf_sipush (v := 256) X dX8_init_25 (by decide) ?_
    exact cf_icmp_ge (tgt := 57) X dX8_init_28 (by decide) (fun _ => K) (fun z => absurd z (by decide))
  | succ k ih =>
    intro i hi h1
    have hi2 : i < 256 := by omega
    have hd : i / 2 < 256 := by omega
    refine cf_iload_n X dX8_init_24 rfl rfl ?_
    refine cf_sipush (v := 256) X dX8_init_25 (by decide) ?_
    refine cf_icmp_ge (tgt := 57) X dX8_init_28 (by decide) (fun z => absurd (show nI i < nI 256 from nI_lt hi2 (by decide)) z) (fun _ => ?_)
    refine cf_aload_n X dX8_init_31 rfl rfl ?_
    refine cf_get (q0 := 0) X dX8_init_32 fb_8_1 m_2_6 rfl rfl ?_
    refine cf_iload_n X dX8_init_35 rfl rfl ?_
    refine cf_iconst (v := 3) X dX8_init_36 (by decide) ?_
    refine cf_aload_n X dX8_init_37 rfl rfl ?_
    refine cf_get (q0 := 0) X dX8_init_38 fb_8_1 m_2_6 rfl rfl ?_
    refine cf_iload_n X dX8_init_41 rfl rfl ?_
    refine cf_iconst (v := 2) X dX8_init_42 (by decide) ?_
    refine cf_idiv X dX8_init_43 (by decide) ?_
    rw [show nI i / 2 = nI (i / 2) from pk_div (d := 2) (by omega) (by decide) (by decide)]
    refine cf_iald (q0 := 2) X dX8_init_44 rfl (vin hd) ?_
    rw [ncl (by omega)]
    refine cf_imul X dX8_init_45 ?_
    refine cf_iload_n X dX8_init_46 rfl rfl ?_
    refine cf_iconst (v := 2) X dX8_init_47 (by decide) ?_
    refine cf_irem X dX8_init_48 (by decide) ?_
    rw [show nI i - nI i / 2 * 2 = nI (i % 2) from pk_rem (d := 2) (by omega) (by decide) (by decide)]
    refine cf_iadd X dX8_init_49 ?_
    refine cf_iast (q0 := 2) (j := i) (f' := thr3 (i + 1)) (ws' := [(h0, .inr (8, [.ref q1, .ref q2])), (q1, .inl (gc G 20, 6561, .inl (fun _ => 0))), (q2, .inl (gc G 20, 256, .inl (thr3 (i + 1))))]) X dX8_init_50 rfl (ncl (by omega)) (vin hi2) (thr3_s hi2 h1) rfl ?_
    refine cf_iinc (v := nI (i + 1)) (ls' := [some (.ref h0), some (.int (nI (i + 1)))]) X dX8_init_51 rfl (nI_1 i) (by decide) rfl rfl ?_
    refine cf_goto (tgt := 24) X dX8_init_54 (by decide) ?_
    exact ih (i + 1) (by omega) (by omega)
end RIV
def W_X8 (G : Glob) (h0 : Nat) (b : Nat → Nat) : va_W := [(h0, .inr (8, [.ref (b 0), .ref (b 1)])), (b 0, .inl (gc G 20, 6561, .inl (fun _ => 0))), (b 1, .inl (gc G 20, 256, .inl (thr3 256)))]
set_option maxRecDepth 20000 in
theorem ci_X8 {G : Glob} : Ci G 1 Y_X8_init 2 6817 (.inr (8, [.null, .null])) [] (W_X8 G) := by
  refine cf_enter (ls0 := fun h0 => [some (.ref h0), none]) (by decide +kernel) rfl rfl (fun _ => Nat.le_of_ble_eq_true rfl) (fun _ => rfl) ?_
  intro h0 p e s m args below meth c X hr hk hn
  refine cf_aload_n X dX8_init_0 rfl rfl ?_
  refine cf_obj X m_2_4 ⟨m_1_21, m_1_22⟩ dX8_init_1 ⟨Nat.le_of_ble_eq_true rfl, Nat.le_of_ble_eq_true rfl⟩ (Nat.le_of_ble_eq_true rfl) ?_
  refine cf_aload_n X dX8_init_4 rfl rfl ?_
  refine cf_sipush (v := 6561) X dX8_init_5 (by decide) ?_
  refine cf_newaI (N := 6561) (c' := 1) (s' := 6561) X dX8_init_8 (by decide) (by decide) (Nat.le_of_ble_eq_true rfl) rfl rfl ⟨Nat.le_of_ble_eq_true rfl, Nat.le_of_ble_eq_true rfl⟩ fun q1 => ?_
  refine cf_putF (q0 := 0) (ws' := [(h0, .inr (8, [.ref q1, .null])), (q1, .inl (gc G 20, 6561, .inl (fun _ => 0)))]) X hn dX8_init_10 fq_8_0 m_2_5 rfl (Nat.le_of_ble_eq_true rfl) rfl rfl rfl ?_
  refine cf_aload_n X dX8_init_13 rfl rfl ?_
  refine cf_sipush (v := 256) X dX8_init_14 (by decide) ?_
  refine cf_newaI (N := 256) (c' := 2) (s' := 6817) X dX8_init_17 (by decide) (by decide) (Nat.le_of_ble_eq_true rfl) rfl rfl ⟨Nat.le_of_ble_eq_true rfl, Nat.le_of_ble_eq_true rfl⟩ fun q2 => ?_
  refine cf_putF (q0 := 0) (ws' := [(h0, .inr (8, [.ref q1, .ref q2])), (q1, .inl (gc G 20, 6561, .inl (fun _ => 0))), (q2, .inl (gc G 20, 256, .inl (fun _ => 0)))]) X hn dX8_init_19 fq_8_1 m_2_6 rfl (Nat.le_of_ble_eq_true rfl) rfl rfl rfl ?_
  refine cf_iconst (v := 1) X dX8_init_22 (by decide) ?_
  refine cf_istore_n (ls' := [some (.ref h0), some (.int 1)]) X dX8_init_23 rfl (by decide) rfl rfl ?_
  have lp := rv_loop (G := G) (A := va_A [(h0, .inr (8, [.null, .null]))] s.heap.size) (R := ({ frames := 1, cells := 2, slots := 6817, locals := 40 * 1 } : Room)) (l := gl G) (e := e) (below := below) (cells := 2) (slots := 6817) (Qf := MQ below (Qi G h0 (.inr (8, [.null, .null])) s.heap.size (W_X8 G h0)) args s 2 6817 (va_A [(h0, .inr (8, [.null, .null]))] s.heap.size)) (meth := meth) (h0 := h0) (q1 := q1) (q2 := q2) X (cf_vret X (fun i => ([q1, q2] : List Nat).getD i 0) dX8_init_57 hr hk rfl rfl rfl) 255 1 (by omega) (Nat.le_refl _)
  rw [thr3_1] at lp
  exact lp
