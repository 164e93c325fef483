/-! the law's own methods: same, of two objects; cell, of the script -/
def Y_L_same : MY := (yL_same, cL_same, 2, some .boolean)
theorem cm_L_same : CMS Y_L_same 2 := ⟨⟨m_4_151, m_1_0, ⟨by decide +kernel, by decide +kernel, by decide +kernel⟩, by decide⟩, m_4_150⟩
def Y_L_cell : MY := (yL_cell, cL_cell, 2, some .int)
theorem cm_L_cell : CMS Y_L_cell 2 := ⟨⟨m_3_53, m_1_0, ⟨by decide +kernel, by decide +kernel, by decide +kernel⟩, by decide⟩, m_3_52⟩
section SAM
variable {l : Launch} {Ga Gb : Glob} {Ma Mb : Mem} {S : St}
def B2 (l : Launch) (Ga Gb : Glob) (Ma Mb : Mem) : State → Prop := fun U => W2 Ga Gb Ma Mb U.heap ∧ Twn l U (A2 Ga Gb) Ga Gb
def Q2 (Ga Gb : Glob) (S : St) : Array Value → State → Outcome → State → Prop := fun _ u oc t => (oc = .returned (some (.int 1)) ∧ ∃ Ma' Mb', RC S Ma' ∧ RC S Mb' ∧ W2 Ga Gb Ma' Mb' t.heap) ∧ va_F (A2 Ga Gb) u t
theorem B2_blind (As : List Value) : FrameBlind (va_Pc As (B2 l Ga Gb Ma Mb)) := fun a U g mk h => ⟨h.1, h.2.1, Twn.to (U := U.calling g mk a) h.2.2 (Vm.Alike.refl U.vm)⟩
theorem lcm_0 (x : Int64) : lg_cmp x x = 0 := by
  unfold lg_cmp
  simp
theorem o_digest {G : Glob} {M : Mem} (hk : SOk S) (hC : RC S M) : C_X10_digest G M (Ov (.long (dg5 S)) S) := c_dig hk hC ⟨rfl, hC⟩
theorem o_asked {G : Glob} {M : Mem} (hC : RC S M) : C_X10_asked G M (Ov (.int S.2.2.2.2.2.2.1) S) := v_X10_asked ⟨by rw [hC.2.2.2.2.1.2.2.1], hC⟩
theorem o_upper {G : Glob} {M : Mem} (hC : RC S M) : C_X10_upper G M (Ov (.long S.2.2.2.2.2.2.2.1) S) := v_X10_upper ⟨by rw [hC.2.2.2.2.1.2.2.2.1], hC⟩
theorem o_lower {G : Glob} {M : Mem} (hC : RC S M) : C_X10_lower G M (Ov (.long S.2.2.2.2.2.2.2.2) S) := v_X10_lower ⟨by rw [hC.2.2.2.2.1.2.2.2.2], hC⟩
theorem o_finding {G : Glob} {M : Mem} (hC : RC S M) : C_X10_finding G M (Ov (.int S.2.2.2.2.2.1) S) := v_X10_finding ⟨by rw [hC.2.2.2.2.1.2.1], hC⟩
theorem sm_ok (hk : SOk S) (hCa : RC S Ma) (hCb : RC S Mb) : Met l Y_L_same.1 (wsY Y_L_same) (rmD 8) (va_Pc [.ref (ad Ga 0), .ref (ad Gb 0)] (B2 l Ga Gb Ma Mb)) (Q2 Ga Gb S) 0 0 (A2 Ga Gb) := by
  refine Met.ofW (cc := cL_same) (maxL := 2) (ret := some .boolean) (by decide +kernel) rfl ?_
  intro p e s m args below meth c s₁ B hml hv
  obtain ⟨rfl, hW, T⟩ := hv
  have hts := atoms_spec (ws := wsY Y_L_same) B.pre
  have hl := lv_entry [.ref (ad Ga 0), .ref (ad Gb 0)] (n := 2) (Nat.le_of_ble_eq_true rfl)
  rw [lg_entry_eq]
  have X : CxA p s m #[.ref (ad Ga 0), .ref (ad Gb 0)] c cL_same 2 "DrawerGlovesLaw" := ⟨B.exec, B.bytes, hml, findClass_of_methodNamed B.named, fun w hw => hts w (List.mem_cons_of_mem _ hw), trivial⟩
  have hr := B.returns
  have hkk := B.notSynchronized
  have main : FA p l e (rmD 8) s m #[.ref (ad Ga 0), .ref (ad Gb 0)] below meth c (A2 Ga Gb) 0 0 (MQ below (Q2 Ga Gb S) #[.ref (ad Ga 0), .ref (ad Gb 0)] s 0 0 (A2 Ga Gb)) 2 (W2 Ga Gb Ma Mb) 0 [some (.ref (ad Ga 0)), some (.ref (ad Gb 0))] [] := by
    refine fa_aload_n X dL_same_0 rfl rfl ?_
    refine fa_o (d := 6) (As := []) (st := []) X T dL_same_1 cm_X10_digest m_3_27 ⟨Nat.le_of_ble_eq_true rfl, Nat.le_of_ble_eq_true rfl, Nat.le_of_ble_eq_true rfl, Nat.le_of_ble_eq_true rfl⟩ rfl (Nat.le_of_ble_eq_true rfl) rfl (o_digest hk hCa) fun M1 hGa1 => ?_
    refine fa_aload_n X dL_same_4 rfl rfl ?_
    refine fa_q (d := 6) (As := []) (st := [.long (dg5 S)]) X T dL_same_5 cm_X10_digest m_3_27 ⟨Nat.le_of_ble_eq_true rfl, Nat.le_of_ble_eq_true rfl, Nat.le_of_ble_eq_true rfl, Nat.le_of_ble_eq_true rfl⟩ rfl (Nat.le_of_ble_eq_true rfl) rfl (o_digest hk hCb) fun M2 hGb2 => ?_
    refine fa_lcmp X dL_same_8 ?_
    rw [lcm_0]
    refine fa_if_ne (tgt := 62) X dL_same_9 (by decide) (fun z => absurd rfl z) (fun _ => ?_)
    refine fa_aload_n X dL_same_12 rfl rfl ?_
    refine fa_o (d := 1) (As := []) (st := []) X T dL_same_13 cm_X10_asked m_4_152 ⟨Nat.le_of_ble_eq_true rfl, Nat.le_of_ble_eq_true rfl, Nat.le_of_ble_eq_true rfl, Nat.le_of_ble_eq_true rfl⟩ rfl (Nat.le_of_ble_eq_true rfl) rfl (o_asked hGa1) fun M3 hGa3 => ?_
    refine fa_aload_n X dL_same_16 rfl rfl ?_
    refine fa_q (d := 1) (As := []) (st := [.int S.2.2.2.2.2.2.1]) X T dL_same_17 cm_X10_asked m_4_152 ⟨Nat.le_of_ble_eq_true rfl, Nat.le_of_ble_eq_true rfl, Nat.le_of_ble_eq_true rfl, Nat.le_of_ble_eq_true rfl⟩ rfl (Nat.le_of_ble_eq_true rfl) rfl (o_asked hGb2) fun M4 hGb4 => ?_
    refine fa_icmp_ne (tgt := 62) X dL_same_20 (by decide) (fun z => absurd rfl z) (fun _ => ?_)
    refine fa_aload_n X dL_same_23 rfl rfl ?_
    refine fa_o (d := 1) (As := []) (st := []) X T dL_same_24 cm_X10_upper m_4_156 ⟨Nat.le_of_ble_eq_true rfl, Nat.le_of_ble_eq_true rfl, Nat.le_of_ble_eq_true rfl, Nat.le_of_ble_eq_true rfl⟩ rfl (Nat.le_of_ble_eq_true rfl) rfl (o_upper hGa3) fun M5 hGa5 => ?_
    refine fa_aload_n X dL_same_27 rfl rfl ?_
    refine fa_q (d := 1) (As := []) (st := [.long S.2.2.2.2.2.2.2.1]) X T dL_same_28 cm_X10_upper m_4_156 ⟨Nat.le_of_ble_eq_true rfl, Nat.le_of_ble_eq_true rfl, Nat.le_of_ble_eq_true rfl, Nat.le_of_ble_eq_true rfl⟩ rfl (Nat.le_of_ble_eq_true rfl) rfl (o_upper hGb4) fun M6 hGb6 => ?_
    refine fa_lcmp X dL_same_31 ?_
    rw [lcm_0]
    refine fa_if_ne (tgt := 62) X dL_same_32 (by decide) (fun z => absurd rfl z) (fun _ => ?_)
    refine fa_aload_n X dL_same_35 rfl rfl ?_
    refine fa_o (d := 1) (As := []) (st := []) X T dL_same_36 cm_X10_lower m_4_160 ⟨Nat.le_of_ble_eq_true rfl, Nat.le_of_ble_eq_true rfl, Nat.le_of_ble_eq_true rfl, Nat.le_of_ble_eq_true rfl⟩ rfl (Nat.le_of_ble_eq_true rfl) rfl (o_lower hGa5) fun M7 hGa7 => ?_
    refine fa_aload_n X dL_same_39 rfl rfl ?_
    refine fa_q (d := 1) (As := []) (st := [.long S.2.2.2.2.2.2.2.2]) X T dL_same_40 cm_X10_lower m_4_160 ⟨Nat.le_of_ble_eq_true rfl, Nat.le_of_ble_eq_true rfl, Nat.le_of_ble_eq_true rfl, Nat.le_of_ble_eq_true rfl⟩ rfl (Nat.le_of_ble_eq_true rfl) rfl (o_lower hGb6) fun M8 hGb8 => ?_
    refine fa_lcmp X dL_same_43 ?_
    rw [lcm_0]
    refine fa_if_ne (tgt := 62) X dL_same_44 (by decide) (fun z => absurd rfl z) (fun _ => ?_)
    refine fa_aload_n X dL_same_47 rfl rfl ?_
    refine fa_o (d := 1) (As := []) (st := []) X T dL_same_48 cm_X10_finding m_4_164 ⟨Nat.le_of_ble_eq_true rfl, Nat.le_of_ble_eq_true rfl, Nat.le_of_ble_eq_true rfl, Nat.le_of_ble_eq_true rfl⟩ rfl (Nat.le_of_ble_eq_true rfl) rfl (o_finding hGa7) fun M9 hGa9 => ?_
    refine fa_aload_n X dL_same_51 rfl rfl ?_
    refine fa_q (d := 1) (As := []) (st := [.int S.2.2.2.2.2.1]) X T dL_same_52 cm_X10_finding m_4_164 ⟨Nat.le_of_ble_eq_true rfl, Nat.le_of_ble_eq_true rfl, Nat.le_of_ble_eq_true rfl, Nat.le_of_ble_eq_true rfl⟩ rfl (Nat.le_of_ble_eq_true rfl) rfl (o_finding hGb8) fun M10 hGb10 => ?_
    refine fa_icmp_ne (tgt := 62) X dL_same_55 (by decide) (fun z => absurd rfl z) (fun _ => ?_)
    refine fa_iconst (v := 1) X dL_same_58 (by decide) ?_
    refine fa_goto (tgt := 63) X dL_same_59 (by decide) ?_
    exact fa_iret X hr hkk dL_same_63 rfl fun t hP hF => ⟨⟨rfl, _, _, hGa9, hGb10, hP⟩, hF⟩
  refine main s.heap [] _ hW va_S.rf ⟨hl.1, hl.2.1, fun i v hv => ?_⟩
  refine hl.2.2 (i, v) ?_
  match i, hv with
  | 0, hv => cases hv; exact List.mem_cons_self
  | 1, hv => cases hv; exact List.mem_cons_of_mem _ List.mem_cons_self
  | i + 2, hv => cases hv
end SAM
section CEL
variable {l : Launch} {b Ln : Nat} {xs : Nat → Int32}
def Bc (b Ln : Nat) (xs : Nat → Int32) : State → Prop := fun U => va_X b Ln xs U U.heap ∧ b < U.heap.size
def A0 : Nat → Prop := fun _ => False
def Qcell : Array Value → State → Outcome → State → Prop := fun _ u oc t => (∃ r : Int32, oc = .returned (some (.int r))) ∧ va_F A0 u t
theorem Bc_blind (As : List Value) : FrameBlind (va_Pc As (Bc b Ln xs)) := fun a U g mk h => ⟨h.1, va_X.moved (u := U) (U := U.calling g mk a) (Vm.Alike.refl U.vm) h.2.1, h.2.2⟩
theorem cell_ok {k : Nat} (hk : k < 20) (hLn : Ln < 2 ^ 20) : Met l Y_L_cell.1 (wsY Y_L_cell) (rmD 1) (va_Pc [.ref b, .int (nI k)] (Bc b Ln xs)) Qcell 0 0 A0 := by
  refine Met.ofW (cc := cL_cell) (maxL := 2) (ret := some .int) (by decide +kernel) rfl ?_
  intro p e s m args below meth c s₁ B hml hv
  obtain ⟨rfl, hXX, hbl⟩ := hv
  have hts := atoms_spec (ws := wsY Y_L_cell) B.pre
  have hl := lv_entry [.ref b, .int (nI k)] (n := 2) (Nat.le_of_ble_eq_true rfl)
  rw [lg_entry_eq]
  have X : CxA p s m #[.ref b, .int (nI k)] c cL_cell 2 "DrawerGlovesLaw" := ⟨B.exec, B.bytes, hml, findClass_of_methodNamed B.named, fun w hw => hts w (List.mem_cons_of_mem _ hw), trivial⟩
  have hX : va_X b Ln xs s s.heap ∧ b < s.heap.size ∧ ¬ A0 b := ⟨hXX, hbl, fun h => h⟩
  have hr := B.returns
  have hkk := B.notSynchronized
  have main : FA p l e (rmD 1) s m #[.ref b, .int (nI k)] below meth c A0 0 0 (MQ below Qcell #[.ref b, .int (nI k)] s 0 0 A0) 2 (fun _ => True) 0 [some (.ref b), some (.int (nI k))] [] := by
    refine fa_iload_n X dL_cell_0 rfl rfl ?_
    refine fa_aload_n X dL_cell_1 rfl rfl ?_
    refine fa_slen X hX dL_cell_2 ?_
    refine fa_icmp_ge (tgt := 12) X dL_cell_3 (by decide) (fun _ => ?_) (fun z => ?_)
    · refine fa_ldc (v := 747796405) X m_3_54 dL_cell_12 ?_
      refine fa_iload_n X dL_cell_14 rfl rfl ?_
      refine fa_iconst (v := 1) X dL_cell_15 (by decide) ?_
      refine fa_iadd X dL_cell_16 ?_
      refine fa_imul X dL_cell_17 ?_
      exact fa_iret X hr hkk dL_cell_18 rfl fun t _ hF => ⟨⟨_, rfl⟩, hF⟩
    · refine fa_aload_n X dL_cell_6 rfl rfl ?_
      refine fa_iload_n X dL_cell_7 rfl rfl ?_
      refine fa_sld X hX (vin ((nI_ltI (by omega) (by omega)).mp z) (by omega)) dL_cell_8 ?_
      refine fa_goto (tgt := 18) X dL_cell_9 (by decide) ?_
      exact fa_iret X hr hkk dL_cell_18 rfl fun t _ hF => ⟨⟨_, rfl⟩, hF⟩
  refine main s.heap [] _ trivial va_S.rf ⟨hl.1, hl.2.1, fun i v hv => ?_⟩
  refine hl.2.2 (i, v) ?_
  match i, hv with
  | 0, hv => cases hv; exact List.mem_cons_self
  | 1, hv => cases hv; exact List.mem_cons_of_mem _ List.mem_cons_self
  | i + 2, hv => cases hv
end CEL
section CAL0
variable {p : Program} {l : Launch} {e : Env} {R : Room} {s : State} {m : MethodId} {args : Array Value} {c : Code} {cells slots : Nat} {nL : Nat} {cc : ByteArray} {own : String}
theorem cb_of {Y : MY} {n d idx : Nat} (hts : ∀ w ∈ gtbl, w.before args s = true) (hcm : CM Y n) (hl : Cond.methodLink own idx Y.1 ∈ gtbl) (hR : d + 1 ≤ R.frames ∧ 40 * (d + 1) ≤ R.locals ∧ cells ≤ R.cells ∧ slots ≤ R.slots) : CallB R s args own idx Y.1 Y.2.1 Y.2.2.1 Y.2.2.2 (wsY Y) (rmD d) 0 0 n :=
  callB_of n hts (goodY hcm) rfl rfl rfl (hts _ hcm.2.1) (hts _ hl) hcm.2.2.1 ⟨hR.1, by have := hcm.2.2.2; have h2 := hR.2.1; show 8 + (Y.2.2.1 + 11) + 40 * d ≤ R.locals; omega⟩
end CAL0
section CAL
variable {p : Program} {l : Launch} {e : Env} {R : Room} {s : State} {m : MethodId} {args : Array Value} {below : List Frame} {meth : Method} {c : Code} {cells slots : Nat} {Qf : State → Prop}
variable {A : Nat → Prop} {Ga Gb : Glob} {Ma Mb : Mem} {S : St} {nL : Nat} {cc : ByteArray} {own : String} {pc : Nat} {ls : LL} {st : List Value}
/-- a call of same: 1 -/
theorem fa_same (X : CxA p s m args c cc nL own) (T : Twn l s A Ga Gb) (hk : SOk S) (hCa : RC S Ma) (hCb : RC S Mb) {idx : Nat} (hd : decode cc pc = .ok (.invokestatic idx, 3)) (hl : Cond.methodLink own idx Y_L_same.1 ∈ gtbl) (hR : 8 + 1 ≤ R.frames ∧ 40 * (8 + 1) ≤ R.locals ∧ cells ≤ R.cells ∧ slots ≤ R.slots) (hst : (st.map fun v => v.category).sum ≤ 8) (K : ∀ Ma' Mb', RC S Ma' → RC S Mb' → FA p l e R s m args below meth c A cells slots Qf nL (W2 Ga Gb Ma' Mb') (pc + 3) ls (.int 1 :: st)) : FA p l e R s m args below meth c A cells slots Qf nL (W2 Ga Gb Ma Mb) pc ls (.ref (ad Gb 0) :: .ref (ad Ga 0) :: st) := by
  intro H locs la hP hS hL
  obtain ⟨hx, hb, hml, hown, hts, -⟩ := X
  obtain ⟨hcm, hin⟩ := cm_L_same
  have cb := cb_of (d := 8) hts hcm hl hR
  refine fa_run (Pst := fun v H1 => v = some (.int 1) ∧ ∃ Ma' Mb', RC S Ma' ∧ RC S Mb' ∧ W2 Ga Gb Ma' Mb' H1) (A1 := A2 Ga Gb) (va_runS (As := [.ref (ad Ga 0), .ref (ad Gb 0)]) (rest := st) ⟨hx, hb, hml, hown, hts⟩ (sm_ok hk hCa hCb) ⟨cb, hts _ hin⟩ ⟨B2_blind _, fun U hU hW => ⟨rfl, by rw [hU]; exact hP, T.to hW.alike⟩⟩ rfl rfl hL.1 rfl (lv_room hst) hd ⟨hR.2.2.1, hR.2.2.2⟩) (fun u t v h => ?_) T.in T.in hS fun v H1 locs1 hp _ hS1 => ?_
  · obtain ⟨⟨hv, h2⟩, hF⟩ := h
    cases hv
    exact ⟨⟨rfl, h2⟩, hF⟩
  · obtain ⟨rfl, Ma', Mb', h1, h2, h3⟩ := hp
    exact K Ma' Mb' h1 h2 H1 locs1 la h3 hS1 hL
/-- a call of cell: some number -/
theorem fa_cell (X : CxA p s m args c cc nL own) (T : Twn l s A Ga Gb) {b Ln k : Nat} {xs : Nat → Int32} (hX : va_X b Ln xs s s.heap ∧ b < s.heap.size ∧ ¬ A b) (hk : k < 20) (hLn : Ln < 2 ^ 20) {idx : Nat} (hd : decode cc pc = .ok (.invokestatic idx, 3)) (hl : Cond.methodLink own idx Y_L_cell.1 ∈ gtbl) (hR : 1 + 1 ≤ R.frames ∧ 40 * (1 + 1) ≤ R.locals ∧ cells ≤ R.cells ∧ slots ≤ R.slots) (hst : (st.map fun v => v.category).sum ≤ 8) (K : ∀ z : Int32, FA p l e R s m args below meth c A cells slots Qf nL (W2 Ga Gb Ma Mb) (pc + 3) ls (.int z :: st)) : FA p l e R s m args below meth c A cells slots Qf nL (W2 Ga Gb Ma Mb) pc ls (.int (nI k) :: .ref b :: st) := by
  intro H locs la hP hS hL
  obtain ⟨hx, hb, hml, hown, hts, -⟩ := X
  obtain ⟨hcm, hin⟩ := cm_L_cell
  have hXH : va_X b Ln xs s H := hX.1.kept (hS.2.1 b hX.2.1 hX.2.2)
  have hbH : b < H.size := Nat.lt_of_lt_of_le hX.2.1 hS.1
  have cb := cb_of (d := 1) hts hcm hl hR
  refine fa_run (Pst := fun v _ => ∃ r : Int32, v = some (.int r)) (A1 := A0) (va_runS (As := [.ref b, .int (nI k)]) (rest := st) ⟨hx, hb, hml, hown, hts⟩ (cell_ok (l := l) (b := b) (Ln := Ln) (xs := xs) hk hLn) ⟨cb, hts _ hin⟩ ⟨Bc_blind _, fun U hU hW => ⟨rfl, by rw [hU]; exact va_X.moved hW.alike hXH, by rw [hU]; exact hbH⟩⟩ rfl rfl hL.1 rfl (lv_room hst) hd ⟨hR.2.2.1, hR.2.2.2⟩) (fun u t v h => ?_) (fun _ h => h.elim) (fun _ h => h.elim) hS fun v H1 locs1 hp hk1 hS1 => ?_
  · obtain ⟨⟨r, hv⟩, hF⟩ := h
    cases hv
    exact ⟨⟨r, rfl⟩, hF⟩
  · obtain ⟨r, rfl⟩ := hp
    exact K r H1 locs1 la ⟨hP.1.kept fun k q hk' => hk1 q.1 (hP.1 k q hk').lt (fun h => h), hP.2.kept fun k q hk' => hk1 q.1 (hP.2 k q hk').lt (fun h => h)⟩ hS1 hL
end CAL
