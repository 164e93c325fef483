theorem nw_10 : NW 10 "DrawerGloves" 13 [.null, .null, .null, .null, .null, .null, .null, .null, .null, .null, .null, .int 0, .int 0] := ⟨TX10, tyX10, rfl, inX10, tyX10_ok, fun j hj => (lt_s (lt_s (lt_s (lt_s (lt_s (lt_s (lt_s (lt_s (lt_s (lt_s (lt_s (lt_s (lt_s lt_0 rfl) rfl) rfl) rfl) rfl) rfl) rfl) rfl) rfl) rfl) rfl) rfl) rfl : ∀ j, j < 13 → defaultValue (tyX10 j) = vp_V [.null, .null, .null, .null, .null, .null, .null, .null, .null, .null, .null, .int 0, .int 0] j) j hj, m_1_16, m_1_1⟩
section WST
variable {p : Program} {s : State} {args : Array Value}
theorem kn_0 (hts : ∀ w ∈ gtbl, w.before args s = true) : ∃ (cC : ClassId) (iS : Nat → Nat), ∀ q : vw_C, vwCl[0]? = some q → u_Kn s q.1 q.2.1 q.2.2 cC iS := by
  obtain ⟨c, i, h⟩ := u_known (C := RX0) (T := TX0) (N := 7) (n := 7) hts inX0 (hts _ m_1_195)
  exact ⟨c, i, fun q hq => by cases hq; exact h⟩
theorem kn_1 (hts : ∀ w ∈ gtbl, w.before args s = true) : ∃ (cC : ClassId) (iS : Nat → Nat), ∀ q : vw_C, vwCl[1]? = some q → u_Kn s q.1 q.2.1 q.2.2 cC iS := by
  obtain ⟨c, i, h⟩ := u_known (C := RX1) (T := TX1) (N := 3) (n := 3) hts inX1 (hts _ m_2_13)
  exact ⟨c, i, fun q hq => by cases hq; exact h⟩
theorem kn_2 (hts : ∀ w ∈ gtbl, w.before args s = true) : ∃ (cC : ClassId) (iS : Nat → Nat), ∀ q : vw_C, vwCl[2]? = some q → u_Kn s q.1 q.2.1 q.2.2 cC iS := by
  obtain ⟨c, i, h⟩ := u_known (C := RX2) (T := TX2) (N := 2) (n := 2) hts inX2 (hts _ m_1_88)
  exact ⟨c, i, fun q hq => by cases hq; exact h⟩
theorem kn_3 (hts : ∀ w ∈ gtbl, w.before args s = true) : ∃ (cC : ClassId) (iS : Nat → Nat), ∀ q : vw_C, vwCl[3]? = some q → u_Kn s q.1 q.2.1 q.2.2 cC iS := by
  obtain ⟨c, i, h⟩ := u_known (C := RX3) (T := TX3) (N := 4) (n := 4) hts inX3 (hts _ m_1_80)
  exact ⟨c, i, fun q hq => by cases hq; exact h⟩
theorem kn_4 (hts : ∀ w ∈ gtbl, w.before args s = true) : ∃ (cC : ClassId) (iS : Nat → Nat), ∀ q : vw_C, vwCl[4]? = some q → u_Kn s q.1 q.2.1 q.2.2 cC iS := by
  obtain ⟨c, i, h⟩ := u_known (C := RX4) (T := TX4) (N := 6) (n := 6) hts inX4 (hts _ m_1_103)
  exact ⟨c, i, fun q hq => by cases hq; exact h⟩
theorem kn_5 (hts : ∀ w ∈ gtbl, w.before args s = true) : ∃ (cC : ClassId) (iS : Nat → Nat), ∀ q : vw_C, vwCl[5]? = some q → u_Kn s q.1 q.2.1 q.2.2 cC iS := by
  obtain ⟨c, i, h⟩ := u_known (C := RX5) (T := TX5) (N := 2) (n := 2) hts inX5 (hts _ m_1_225)
  exact ⟨c, i, fun q hq => by cases hq; exact h⟩
theorem kn_6 (hts : ∀ w ∈ gtbl, w.before args s = true) : ∃ (cC : ClassId) (iS : Nat → Nat), ∀ q : vw_C, vwCl[6]? = some q → u_Kn s q.1 q.2.1 q.2.2 cC iS := by
  obtain ⟨c, i, h⟩ := u_known (C := RX6) (T := TX6) (N := 4) (n := 4) hts inX6 (hts _ m_1_172)
  exact ⟨c, i, fun q hq => by cases hq; exact h⟩
theorem kn_7 (hts : ∀ w ∈ gtbl, w.before args s = true) : ∃ (cC : ClassId) (iS : Nat → Nat), ∀ q : vw_C, vwCl[7]? = some q → u_Kn s q.1 q.2.1 q.2.2 cC iS := by
  obtain ⟨c, i, h⟩ := u_known (C := RX7) (T := TX7) (N := 6) (n := 6) hts inX7 (hts _ m_1_49)
  exact ⟨c, i, fun q hq => by cases hq; exact h⟩
theorem kn_8 (hts : ∀ w ∈ gtbl, w.before args s = true) : ∃ (cC : ClassId) (iS : Nat → Nat), ∀ q : vw_C, vwCl[8]? = some q → u_Kn s q.1 q.2.1 q.2.2 cC iS := by
  obtain ⟨c, i, h⟩ := u_known (C := RX8) (T := TX8) (N := 2) (n := 2) hts inX8 (hts _ m_2_0)
  exact ⟨c, i, fun q hq => by cases hq; exact h⟩
theorem kn_9 (hts : ∀ w ∈ gtbl, w.before args s = true) : ∃ (cC : ClassId) (iS : Nat → Nat), ∀ q : vw_C, vwCl[9]? = some q → u_Kn s q.1 q.2.1 q.2.2 cC iS := by
  obtain ⟨c, i, h⟩ := u_known (C := RX9) (T := TX9) (N := 4) (n := 4) hts inX9 (hts _ m_1_24)
  exact ⟨c, i, fun q hq => by cases hq; exact h⟩
theorem kn_10 (hts : ∀ w ∈ gtbl, w.before args s = true) : ∃ (cC : ClassId) (iS : Nat → Nat), ∀ q : vw_C, vwCl[10]? = some q → u_Kn s q.1 q.2.1 q.2.2 cC iS := by
  obtain ⟨c, i, h⟩ := u_known (C := RX10) (T := TX10) (N := 13) (n := 13) hts inX10 (hts _ m_1_16)
  exact ⟨c, i, fun q hq => by cases hq; exact h⟩
theorem kn_all (hts : ∀ w ∈ gtbl, w.before args s = true) : ∃ D : va_G, ∀ (k : Nat) (q : vw_C), vwCl[k]? = some q → u_Kn s q.1 q.2.1 q.2.2 (D.1 k) (D.2 k) := by
  have h12 : ∀ k, k < 11 → ∃ (cC : ClassId) (iS : Nat → Nat), ∀ q : vw_C, vwCl[k]? = some q → u_Kn s q.1 q.2.1 q.2.2 cC iS := lt_s (lt_s (lt_s (lt_s (lt_s (lt_s (lt_s (lt_s (lt_s (lt_s (lt_s lt_0 (kn_0 hts)) (kn_1 hts)) (kn_2 hts)) (kn_3 hts)) (kn_4 hts)) (kn_5 hts)) (kn_6 hts)) (kn_7 hts)) (kn_8 hts)) (kn_9 hts)) (kn_10 hts)
  have ex : ∀ k, ∃ z : ClassId × (Nat → Nat), ∀ q : vw_C, vwCl[k]? = some q → u_Kn s q.1 q.2.1 q.2.2 z.1 z.2 := fun k => by
    by_cases hk : k < 11
    · obtain ⟨c, i, h⟩ := h12 k hk
      exact ⟨(c, i), h⟩
    · obtain ⟨c, i, h⟩ := h12 0 (by decide)
      refine ⟨(c, i), fun q hq => ?_⟩
      have h2 := (List.getElem?_eq_some_iff.mp hq).1
      exact absurd h2 hk
  exact ⟨(fun k => (Classical.choose (ex k)).1, fun k => (Classical.choose (ex k)).2), fun k q hq => Classical.choose_spec (ex k) q hq⟩
theorem ar_C {t : FieldType} (h : (Cond.arrayClass t).before args s = true) (ho : ∀ C, t ≠ .object C) : ∃ c : ClassId, ArrOfT s c t ∧ va_RA s c t := by
  obtain ⟨c, k, comp, h1, h2, h3⟩ := Cond.arrayClass_spec h
  refine ⟨c, fun N z => ⟨(fun q hq => by cases hq), k, h2, comp, h3⟩, ?_⟩
  cases t <;> first | exact h1 | exact absurd rfl (ho _)
theorem ar_O {C : String} (h : (Cond.arrayOver (.object C)).before args s = true) : ∃ c : ClassId, ArrOfT s c (.object C) ∧ va_RA s c (.object C) := by
  obtain ⟨comp, c, k, h1, h2, h3, h4, h5⟩ := Cond.arrayOver_spec h
  exact ⟨c, fun N z => ⟨(fun q hq => by cases hq), k, h3, comp, h4⟩, k, comp, h3, h4, h1, h5⟩
theorem ar_A {t : FieldType} (h : (Cond.arrayOver (.array t)).before args s = true) : ∃ c : ClassId, ArrOfT s c (.array t) ∧ va_RA s c (.array t) := by
  obtain ⟨comp, c, k, h1, h2, h3, h4, h5⟩ := arrayOverA_spec h
  exact ⟨c, fun N z => ⟨(fun q hq => by cases hq), k, h3, comp, h4⟩, h5⟩
end WST
/-- from the entry, for every script of at most 260 ints, the law comes to its end with true -/
theorem whole_start {p : Program} {e : Env} {s : State} {m : MethodId} {below : List Frame} {meth : Method} {c : Code} (l : Launch) (hflags : l.flags = flags0) {b L : Nat} {xs : Nat → Int32} (hL : L ≤ 260) (C0 : lw_At p s m meth c b L xs) : W p l e room_1 s m #[Value.ref b] below meth c s.heap [] 0 0 (lw_Z below #[Value.ref b] s) (entryFrame m ([Value.ref b] : List Value).toArray 10) := by
  obtain ⟨hx, hb, hr, hml, hown, hts0, hX, hbl, hlocks, hgv⟩ := id C0
  have hts : ∀ w ∈ gtbl, w.before #[Value.ref b] s = true := fun w h => hts0 w (gtbl_in h)
  obtain ⟨D, hKc⟩ := kn_all hts
  obtain ⟨cI, aI⟩ := ar_C (hts _ m_1_47) (fun C h => by cases h)
  obtain ⟨cD, aD⟩ := ar_O (hts0 _ m_1_169)
  obtain ⟨cG, aG⟩ := ar_O (hts0 _ m_1_86)
  obtain ⟨cA, aA⟩ := ar_A (hts0 _ m_1_33)
  obtain ⟨G0, hG0⟩ : ∃ G : Glob, G = (l, D, fun k => if k = 20 then cI else if k = 22 then cD else if k = 23 then cG else cA, fun _ => 0) := ⟨_, rfl⟩
  have hgl : gl G0 = l := by rw [hG0]
  have hK : va_K (gD G0) vwCl (tso G0) s := by
    subst hG0
    refine ⟨hKc, fun k q h => ?_⟩
    match k, h with
    | 0, h => cases h; exact aI
    | 1, h => cases h; exact aD
    | 2, h => cases h; exact aG
    | 3, h => cases h; exact aA
    | k + 4, h => simp [tso] at h
  have hXO : XO s := ⟨hts0 _ m_1_169, hts0 _ m_1_86, hts0 _ m_1_33⟩
  have X0 : CxC p s m #[Value.ref b] c G0 cL_law 10 R_law (fun q : Nat => s.heap.size ≤ q) := ⟨hx, hb, hml, hown, hts, hK, hXO, fun _ h => h⟩
  have main : Cf p l e room_1 s m #[Value.ref b] below meth c G0 (fun q : Nat => s.heap.size ≤ q) (lw_Z below #[Value.ref b] s) 10 0 0 0 [some (.ref b), none, none, none, none, none, none, none, none, none] [] [] := by
    refine cf_new (c' := 1) (s' := 13) X0 dL_law_0 nw_10 m_1_15 rfl rfl ⟨Nat.le_of_ble_eq_true rfl, Nat.le_of_ble_eq_true rfl⟩ fun x => ?_
    refine cf_dup X0 dL_law_3 rfl ?_
    refine cf_init (q0 := 0) (d := 4) (c' := 71) (s' := 8655) (As := []) (isR := []) (wr := []) X0 dL_law_4 cmi_X10_init m_1_17 ⟨Nat.le_of_ble_eq_true rfl, Nat.le_of_ble_eq_true rfl⟩ ⟨Nat.le_of_ble_eq_true rfl, Nat.le_of_ble_eq_true rfl⟩ rfl rfl rfl (Nat.le_of_ble_eq_true rfl) rfl hgl ci_X10 rfl rfl rfl (by decide) fun b1 => ?_
    refine cf_astore_n (ls' := [some (.ref b), some (.ref x), none, none, none, none, none, none, none, none]) X0 dL_law_7 rfl (by decide) rfl rfl ?_
    refine cf_new (c' := 72) (s' := 8668) X0 dL_law_8 nw_10 m_1_15 rfl rfl ⟨Nat.le_of_ble_eq_true rfl, Nat.le_of_ble_eq_true rfl⟩ fun y => ?_
    refine cf_dup X0 dL_law_11 rfl ?_
    refine cf_init (q0 := 71) (d := 4) (c' := 142) (s' := 17310) (As := []) (isR := List.range 71) (wr := W_X10 G0 x b1) X0 dL_law_12 cmi_X10_init m_1_17 ⟨Nat.le_of_ble_eq_true rfl, Nat.le_of_ble_eq_true rfl⟩ ⟨Nat.le_of_ble_eq_true rfl, Nat.le_of_ble_eq_true rfl⟩ rfl rfl rfl (Nat.le_of_ble_eq_true rfl) rfl hgl ci_X10 rfl rfl rfl (by decide) fun d1 => ?_
    refine cf_astore_n (ls' := [some (.ref b), some (.ref x), some (.ref y), none, none, none, none, none, none, none]) X0 dL_law_15 rfl (by decide) rfl rfl ?_
    intro H locs la hP hD hS hLH
    obtain ⟨hPa, hPb⟩ := both_P hP
    obtain ⟨hDa, hDb⟩ := both_D hD
    have T : Twn l s (fun q : Nat => s.heap.size ≤ q) (G1 G0 x b1) (G1 G0 y d1) := ⟨hK, hK, asm_GI hDa, asm_GI hDb, both_off hD, asm_A hDa, asm_A hDb, hgl, hgl⟩
    have X : CxA p s m #[Value.ref b] c cL_law 10 R_law := ⟨hx, hb, hml, hown, hts, trivial⟩
    have hX3 : va_X b L xs s s.heap ∧ b < s.heap.size ∧ ¬ s.heap.size ≤ b := ⟨hX, hbl, Nat.not_le.mpr hbl⟩
    refine W.widen (k := 600000) (n := 7302250) (Nat.le_of_ble_eq_true rfl) (Nat.le_of_ble_eq_true rfl) ?_
    exact lw_begin (l := l) (e := e) (below := below) (meth := meth) X T hX3 (by omega) (fun q h => h) hr hlocks S0_ok S0_C S0_C H locs la ⟨asm_P hPa, asm_P hPb⟩ hS hLH
  have hl := lv_entry ([.ref b]) (n := 10) (Nat.le_of_ble_eq_true rfl)
  rw [lg_entry_eq]
  have hP0 : va_P (gD G0) vwCl [] s.heap := fun k q h => by cases h
  have hD0 : va_D (fun q : Nat => s.heap.size ≤ q) [] := by
    refine ⟨fun i j p q h => ?_, fun k q h => ?_⟩
    · cases h
    · cases h
  refine main s.heap [] _ hP0 hD0 va_S.rf ⟨hl.1, hl.2.1, fun i v hv => ?_⟩
  refine hl.2.2 (i, v) ?_
  match i, hv with
  | 0, hv => cases hv; exact List.mem_cons_self
  | 1, hv => cases hv
  | 2, hv => cases hv
  | 3, hv => cases hv
  | 4, hv => cases hv
  | 5, hv => cases hv
  | 6, hv => cases hv
  | 7, hv => cases hv
  | 8, hv => cases hv
  | 9, hv => cases hv
  | i + 10, hv => cases hv
