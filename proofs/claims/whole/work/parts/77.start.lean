theorem nw_10 : NW 10 "DrawerGloves" 13 [.null, .null, .null, .null, .null, .null, .null, .null, .null, .null, .null, .int 0, .int 0] := ⟨TX10, tyX10, rfl, inX10, tyX10_ok, fun j hj => (lt_s (lt_s (lt_s (lt_s (lt_s (lt_s (lt_s (lt_s (lt_s (lt_s (lt_s (lt_s (lt_s lt_0 rfl) rfl) rfl) rfl) rfl) rfl) rfl) rfl) rfl) rfl) rfl) rfl) rfl : ∀ j, j < 13 → defaultValue (tyX10 j) = vp_V [.null, .null, .null, .null, .null, .null, .null, .null, .null, .null, .null, .int 0, .int 0] j) j hj, m_1_17, m_1_1⟩
theorem nw_11 : NW 11 "DrawerGlovesModel" 36 [.int 0, .long 0, .long 0, .int 0, .null, .null, .null, .null, .null, .null, .int 0, .int 0, .null, .null, .null, .null, .int 0, .int 0, .int 0, .int 0, .int 0, .null, .null, .null, .null, .null, .null, .int 0, .null, .null, .null, .null, .null, .null, .int 0, .null] := ⟨TX11, tyX11, rfl, inX11, tyX11_ok, fun j hj => (lt_s (lt_s (lt_s (lt_s (lt_s (lt_s (lt_s (lt_s (lt_s (lt_s (lt_s (lt_s (lt_s (lt_s (lt_s (lt_s (lt_s (lt_s (lt_s (lt_s (lt_s (lt_s (lt_s (lt_s (lt_s (lt_s (lt_s (lt_s (lt_s (lt_s (lt_s (lt_s (lt_s (lt_s (lt_s (lt_s lt_0 rfl) rfl) rfl) rfl) rfl) rfl) rfl) rfl) rfl) rfl) rfl) rfl) rfl) rfl) rfl) rfl) rfl) rfl) rfl) rfl) rfl) rfl) rfl) rfl) rfl) rfl) rfl) rfl) rfl) rfl) rfl) rfl) rfl) rfl) rfl) rfl : ∀ j, j < 36 → defaultValue (tyX11 j) = vp_V [.int 0, .long 0, .long 0, .int 0, .null, .null, .null, .null, .null, .null, .int 0, .int 0, .null, .null, .null, .null, .int 0, .int 0, .int 0, .int 0, .int 0, .null, .null, .null, .null, .null, .null, .int 0, .null, .null, .null, .null, .null, .null, .int 0, .null] j) j hj, m_4_150, m_1_13⟩
section WST
variable {p : Program} {s : State} {args : Array Value}
theorem kn_0 (hts : ∀ w ∈ gtbl, w.before args s = true) : ∃ (cC : ClassId) (iS : Nat → Nat), ∀ q : vw_C, vwCl[0]? = some q → u_Kn s q.1 q.2.1 q.2.2 cC iS := by
  obtain ⟨c, i, h⟩ := u_known (C := RX0) (T := TX0) (N := 7) (n := 7) hts inX0 (hts _ m_1_196)
  exact ⟨c, i, fun q hq => by cases hq; exact h⟩
theorem kn_1 (hts : ∀ w ∈ gtbl, w.before args s = true) : ∃ (cC : ClassId) (iS : Nat → Nat), ∀ q : vw_C, vwCl[1]? = some q → u_Kn s q.1 q.2.1 q.2.2 cC iS := by
  obtain ⟨c, i, h⟩ := u_known (C := RX1) (T := TX1) (N := 3) (n := 3) hts inX1 (hts _ m_2_14)
  exact ⟨c, i, fun q hq => by cases hq; exact h⟩
theorem kn_2 (hts : ∀ w ∈ gtbl, w.before args s = true) : ∃ (cC : ClassId) (iS : Nat → Nat), ∀ q : vw_C, vwCl[2]? = some q → u_Kn s q.1 q.2.1 q.2.2 cC iS := by
  obtain ⟨c, i, h⟩ := u_known (C := RX2) (T := TX2) (N := 2) (n := 2) hts inX2 (hts _ m_1_89)
  exact ⟨c, i, fun q hq => by cases hq; exact h⟩
theorem kn_3 (hts : ∀ w ∈ gtbl, w.before args s = true) : ∃ (cC : ClassId) (iS : Nat → Nat), ∀ q : vw_C, vwCl[3]? = some q → u_Kn s q.1 q.2.1 q.2.2 cC iS := by
  obtain ⟨c, i, h⟩ := u_known (C := RX3) (T := TX3) (N := 4) (n := 4) hts inX3 (hts _ m_1_81)
  exact ⟨c, i, fun q hq => by cases hq; exact h⟩
theorem kn_4 (hts : ∀ w ∈ gtbl, w.before args s = true) : ∃ (cC : ClassId) (iS : Nat → Nat), ∀ q : vw_C, vwCl[4]? = some q → u_Kn s q.1 q.2.1 q.2.2 cC iS := by
  obtain ⟨c, i, h⟩ := u_known (C := RX4) (T := TX4) (N := 6) (n := 6) hts inX4 (hts _ m_1_104)
  exact ⟨c, i, fun q hq => by cases hq; exact h⟩
theorem kn_5 (hts : ∀ w ∈ gtbl, w.before args s = true) : ∃ (cC : ClassId) (iS : Nat → Nat), ∀ q : vw_C, vwCl[5]? = some q → u_Kn s q.1 q.2.1 q.2.2 cC iS := by
  obtain ⟨c, i, h⟩ := u_known (C := RX5) (T := TX5) (N := 2) (n := 2) hts inX5 (hts _ m_1_226)
  exact ⟨c, i, fun q hq => by cases hq; exact h⟩
theorem kn_6 (hts : ∀ w ∈ gtbl, w.before args s = true) : ∃ (cC : ClassId) (iS : Nat → Nat), ∀ q : vw_C, vwCl[6]? = some q → u_Kn s q.1 q.2.1 q.2.2 cC iS := by
  obtain ⟨c, i, h⟩ := u_known (C := RX6) (T := TX6) (N := 4) (n := 4) hts inX6 (hts _ m_1_173)
  exact ⟨c, i, fun q hq => by cases hq; exact h⟩
theorem kn_7 (hts : ∀ w ∈ gtbl, w.before args s = true) : ∃ (cC : ClassId) (iS : Nat → Nat), ∀ q : vw_C, vwCl[7]? = some q → u_Kn s q.1 q.2.1 q.2.2 cC iS := by
  obtain ⟨c, i, h⟩ := u_known (C := RX7) (T := TX7) (N := 6) (n := 6) hts inX7 (hts _ m_1_50)
  exact ⟨c, i, fun q hq => by cases hq; exact h⟩
theorem kn_8 (hts : ∀ w ∈ gtbl, w.before args s = true) : ∃ (cC : ClassId) (iS : Nat → Nat), ∀ q : vw_C, vwCl[8]? = some q → u_Kn s q.1 q.2.1 q.2.2 cC iS := by
  obtain ⟨c, i, h⟩ := u_known (C := RX8) (T := TX8) (N := 2) (n := 2) hts inX8 (hts _ m_2_1)
  exact ⟨c, i, fun q hq => by cases hq; exact h⟩
theorem kn_9 (hts : ∀ w ∈ gtbl, w.before args s = true) : ∃ (cC : ClassId) (iS : Nat → Nat), ∀ q : vw_C, vwCl[9]? = some q → u_Kn s q.1 q.2.1 q.2.2 cC iS := by
  obtain ⟨c, i, h⟩ := u_known (C := RX9) (T := TX9) (N := 4) (n := 4) hts inX9 (hts _ m_1_25)
  exact ⟨c, i, fun q hq => by cases hq; exact h⟩
theorem kn_10 (hts : ∀ w ∈ gtbl, w.before args s = true) : ∃ (cC : ClassId) (iS : Nat → Nat), ∀ q : vw_C, vwCl[10]? = some q → u_Kn s q.1 q.2.1 q.2.2 cC iS := by
  obtain ⟨c, i, h⟩ := u_known (C := RX10) (T := TX10) (N := 13) (n := 13) hts inX10 (hts _ m_1_17)
  exact ⟨c, i, fun q hq => by cases hq; exact h⟩
theorem kn_11 (hts : ∀ w ∈ gtbl, w.before args s = true) : ∃ (cC : ClassId) (iS : Nat → Nat), ∀ q : vw_C, vwCl[11]? = some q → u_Kn s q.1 q.2.1 q.2.2 cC iS := by
  obtain ⟨c, i, h⟩ := u_known (C := RX11) (T := TX11) (N := 36) (n := 36) hts inX11 (hts _ m_4_150)
  exact ⟨c, i, fun q hq => by cases hq; exact h⟩
theorem kn_all (hts : ∀ w ∈ gtbl, w.before args s = true) : ∃ D : va_G, ∀ (k : Nat) (q : vw_C), vwCl[k]? = some q → u_Kn s q.1 q.2.1 q.2.2 (D.1 k) (D.2 k) := by
  have h12 : ∀ k, k < 12 → ∃ (cC : ClassId) (iS : Nat → Nat), ∀ q : vw_C, vwCl[k]? = some q → u_Kn s q.1 q.2.1 q.2.2 cC iS := lt_s (lt_s (lt_s (lt_s (lt_s (lt_s (lt_s (lt_s (lt_s (lt_s (lt_s (lt_s lt_0 (kn_0 hts)) (kn_1 hts)) (kn_2 hts)) (kn_3 hts)) (kn_4 hts)) (kn_5 hts)) (kn_6 hts)) (kn_7 hts)) (kn_8 hts)) (kn_9 hts)) (kn_10 hts)) (kn_11 hts)
  have ex : ∀ k, ∃ z : ClassId × (Nat → Nat), ∀ q : vw_C, vwCl[k]? = some q → u_Kn s q.1 q.2.1 q.2.2 z.1 z.2 := fun k => by
    by_cases hk : k < 12
    · obtain ⟨c, i, h⟩ := h12 k hk
      exact ⟨(c, i), h⟩
    · obtain ⟨c, i, h⟩ := h12 0 (by decide)
      refine ⟨(c, i), fun q hq => ?_⟩
      have h2 := (List.getElem?_eq_some_iff.mp hq).1
      exact absurd h2 hk
  exact ⟨(fun k => (Classical.choose (ex k)).1, fun k => (Classical.choose (ex k)).2), fun k q hq => Classical.choose_spec (ex k) q hq⟩
theorem ar_C {t : FieldType} (h : (Cond.arrayClass t).before args s = true) (ho : ∀ C, t ≠ .object C) : ∃ c : ClassId, ArrOfT s c t ∧ va_RA s c t := by
  obtain ⟨c, k, comp, h1, h2, h3⟩ := Cond.arrayClass_spec h
  refine ⟨c, fun N z => ⟨(fun q hq => by cases hq), k, h2, comp, h3⟩, ?_⟩
  cases t <;> first | exact h1 | exact absurd rfl (ho _)
theorem ar_O {C : String} (h : (Cond.arrayOver (.object C)).before args s = true) : ∃ c : ClassId, ArrOfT s c (.object C) ∧ va_RA s c (.object C) := by
  obtain ⟨comp, c, k, h1, h2, h3, h4, h5⟩ := Cond.arrayOver_spec h
  exact ⟨c, fun N z => ⟨(fun q hq => by cases hq), k, h3, comp, h4⟩, k, comp, h3, h4, h1, h5⟩
theorem ar_A {t : FieldType} (h : (Cond.arrayOver (.array t)).before args s = true) : ∃ c : ClassId, ArrOfT s c (.array t) ∧ va_RA s c (.array t) := by
  obtain ⟨comp, c, k, h1, h2, h3, h4, h5⟩ := arrayOverA_spec h
  exact ⟨c, fun N z => ⟨(fun q hq => by cases hq), k, h3, comp, h4⟩, h5⟩
end WST
/-- from the entry, for every script of at most 3072 ints, the law comes to its end with true -/
theorem whole_start {p : Program} {e : Env} {s : State} {m : MethodId} {below : List Frame} {meth : Method} {c : Code} (l : Launch) (hflags : l.flags = flags0) {b L : Nat} {xs : Nat → Int32} (hL : L ≤ 3072) (C0 : lw_At p s m meth c b L xs) : W p l e room_1 s m #[Value.ref b] below meth c s.heap [] 0 0 (lw_Z below #[Value.ref b] s) (entryFrame m ([Value.ref b] : List Value).toArray 4) := by
  obtain ⟨hx, hb, hr, hml, hown, hts0, hX, hbl, hlocks, hgv⟩ := id C0
  have hts : ∀ w ∈ gtbl, w.before #[Value.ref b] s = true := fun w h => hts0 w (gtbl_in h)
  obtain ⟨D, hKc⟩ := kn_all hts
  obtain ⟨cI, aI⟩ := ar_C (hts _ m_1_48) (fun C h => by cases h)
  obtain ⟨cB, aB⟩ := ar_C (hts _ m_5_24) (fun C h => by cases h)
  obtain ⟨cD, aD⟩ := ar_O (hts0 _ m_1_170)
  obtain ⟨cG, aG⟩ := ar_O (hts0 _ m_1_87)
  obtain ⟨cA, aA⟩ := ar_A (hts0 _ m_1_34)
  obtain ⟨G0, hG0⟩ : ∃ G : Glob, G = (l, D, fun k => if k = 20 then cI else if k = 21 then cB else if k = 22 then cD else if k = 23 then cG else cA, fun _ => 0) := ⟨_, rfl⟩
  have hgl : gl G0 = l := by rw [hG0]
  have hK : va_K (gD G0) vwCl (tso G0) s := by
    subst hG0
    refine ⟨hKc, fun k q h => ?_⟩
    match k, h with
    | 0, h => cases h; exact aI
    | 1, h => cases h; exact aB
    | 2, h => cases h; exact aD
    | 3, h => cases h; exact aG
    | 4, h => cases h; exact aA
    | k + 5, h => simp [tso] at h
  have hXO : XO s := ⟨hts0 _ m_1_170, hts0 _ m_1_87, hts0 _ m_1_34⟩
  have X0 : CxC p s m #[Value.ref b] c G0 code 4 R_law (fun q : Nat => s.heap.size ≤ q) := ⟨hx, hb, hml, hown, hts, hK, hXO, fun _ h => h⟩
  have main : Cf p l e room_1 s m #[Value.ref b] below meth c G0 (fun q : Nat => s.heap.size ≤ q) (lw_Z below #[Value.ref b] s) 4 0 0 0 [some (.ref b), none, none, none] [] [] := by
    refine cf_new (c' := 1) (s' := 13) X0 dL_law_0 nw_10 m_1_16 rfl rfl ⟨Nat.le_of_ble_eq_true rfl, Nat.le_of_ble_eq_true rfl⟩ fun x => ?_
    refine cf_dup X0 dL_law_3 rfl ?_
    refine cf_init (q0 := 0) (d := 4) (c' := 71) (s' := 8655) (As := []) (isR := []) (wr := []) X0 dL_law_4 cmi_X10_init m_1_18 ⟨Nat.le_of_ble_eq_true rfl, Nat.le_of_ble_eq_true rfl⟩ ⟨Nat.le_of_ble_eq_true rfl, Nat.le_of_ble_eq_true rfl⟩ rfl rfl rfl (Nat.le_of_ble_eq_true rfl) rfl hgl ci_X10 rfl rfl rfl (by decide) fun b1 => ?_
    refine cf_astore_n (ls' := [some (.ref b), some (.ref x), none, none]) X0 dL_law_7 rfl (by decide) rfl rfl ?_
    refine cf_new (c' := 72) (s' := 8691) X0 dL_law_8 nw_11 m_4_149 rfl rfl ⟨Nat.le_of_ble_eq_true rfl, Nat.le_of_ble_eq_true rfl⟩ fun y => ?_
    refine cf_dup X0 dL_law_11 rfl ?_
    refine cf_init (q0 := 71) (d := 1) (c' := 95) (s' := 16891) (As := []) (isR := List.range 71) (wr := W_X10 G0 x b1) X0 dL_law_12 cmi_X11_init m_4_151 ⟨Nat.le_of_ble_eq_true rfl, Nat.le_of_ble_eq_true rfl⟩ ⟨Nat.le_of_ble_eq_true rfl, Nat.le_of_ble_eq_true rfl⟩ rfl rfl rfl (Nat.le_of_ble_eq_true rfl) rfl hgl ci_X11 rfl rfl rfl (by decide) fun d1 => ?_
    refine cf_astore_n (ls' := [some (.ref b), some (.ref x), some (.ref y), none]) X0 dL_law_15 rfl (by decide) rfl rfl ?_
    refine cf_iconst (v := 0) X0 dL_law_16 (by decide) ?_
    refine cf_istore_n (ls' := [some (.ref b), some (.ref x), some (.ref y), some (.int 0)]) X0 dL_law_17 rfl (by decide) rfl rfl ?_
    intro H locs la hP hD hS hLH
    have hA := asm_A hD
    have X : CxB p s m #[Value.ref b] c (G1 G0 x y b1 d1) code 4 R_law := ⟨hx, hb, hml, hown, hts, hK, asm_GI hD⟩
    have hbA : ¬ AG (G1 G0 x y b1 d1) b := fun h => by
      have := hA b h
      omega
    have fin := lw_loop (l := l) (e := e) (below := below) (meth := meth) (Qf := lw_Z below #[Value.ref b] s) X ⟨hX, hbl, hbA⟩ hgl hL (fun z M => by
      refine fr_iconst (v := 1) X dL_law_1361 (by decide) ?_
      intro H locs la hP hS hLH
      exact va_forget (fun q hq => hA _ (hS.2.2 q hq)) (lw_ret hx hb hr hlocks dL_law_1362)) 600 0 M0 Bo_0 (Nat.zero_le _) (by omega)
    refine W.widen (k := 600000) (n := 7302249) (Nat.le_of_ble_eq_true rfl) (Nat.le_of_ble_eq_true rfl) ?_
    refine va_forget hS.2.2 ?_
    exact fin H [] la (asm_P hP) ⟨hS.1, fun q h1 h2 => hS.2.1 q h1 (Nat.not_le.mpr h1), fun _ h => by cases h⟩ hLH
  have hl := lv_entry ([.ref b]) (n := 4) (Nat.le_of_ble_eq_true rfl)
  rw [lg_entry_eq]
  have hP0 : va_P (gD G0) vwCl [] s.heap := fun k q h => by cases h
  have hD0 : va_D (fun q : Nat => s.heap.size ≤ q) [] := by
    refine ⟨fun i j p q h => ?_, fun k q h => ?_⟩
    · cases h
    · cases h
  refine main s.heap [] _ hP0 hD0 va_S.rf ⟨hl.1, hl.2.1, fun i v hv => ?_⟩
  refine hl.2.2 (i, v) ?_
  match i, hv with
  | 0, hv => cases hv; exact List.mem_cons_self
  | 1, hv => cases hv
  | 2, hv => cases hv
  | 3, hv => cases hv
  | i + 4, hv => cases hv
