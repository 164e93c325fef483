/-! promises 10 and 11 -/
section DRW
variable {G : Glob} {M : Mem} {Q : Option Value → Mem → Prop} {n : Nat} {S : St}
theorem fgo_le' {f : Nat → Int32} {n p lo hi v : Nat} (hlh : lo ≤ hi) (hl : hi ≤ 9) (h : fgo f n p lo hi = some v) : lo ≤ v ∧ v ≤ hi := ⟨(fgo_le hlh hl h).2, (fgo_le hlh hl h).1⟩
theorem rdG_gs {f : Nat → Int32} {n p : Nat} {x : Gs} (h : rdG f n p = .ok x) : GsOk x := by
  unfold rdG at h
  cases h1 : kdc (f p) with
  | none => rw [h1] at h; cases h
  | some k =>
    rw [h1] at h; simp only [] at h
    cases h2 : fgo f n (p + 1) 0 9 with
    | none => rw [h2] at h; cases h
    | some s =>
      rw [h2] at h; simp only [] at h
      cases h3 : fgo f n (p + 2) 0 1 with
      | none => rw [h3] at h; cases h
      | some t =>
        rw [h3] at h; simp only [] at h
        cases h4 : fgo f n (p + 3) 0 9 with
        | none => rw [h4] at h; cases h
        | some w =>
          rw [h4] at h; simp only [] at h
          cases h
          have a := kdc_lt h1
          have b := (fgo_le (by omega) (by omega) h2).1
          have c := (fgo_le (by omega) (by omega) h3).1
          have d := (fgo_le (by omega) (by omega) h4).1
          exact ⟨a, by show s < 10; omega, by show t < 2; omega, by show w < 10; omega⟩
theorem rdL_gs {f : Nat → Int32} {n : Nat} : ∀ (k z p : Nat) (g : Nat → Gs) (z' : Nat) (g' : Nat → Gs), rdL f n k z p g = .ok (z', g') → (∀ i, i < z → GsOk (g i)) → (∀ i, i < z' → GsOk (g' i)) ∧ z' ≤ z + k := by
  intro k
  induction k with
  | zero =>
    intro z p g z' g' h hg
    unfold rdL at h
    split at h
    · cases h
    · cases h; exact ⟨hg, by omega⟩
  | succ k ih =>
    intro z p g z' g' h hg
    unfold rdL at h
    split at h
    · cases h2 : rdG f n p with
      | error e => rw [h2] at h; cases h
      | ok x =>
        rw [h2] at h; simp only [] at h
        have := ih _ _ _ _ _ h (fun i hi => by
          by_cases c : i = z
          · subst c; rw [fu_s]; exact rdG_gs h2
          · rw [fu_n _ _ c]; exact hg i (by omega))
        exact ⟨this.1, by omega⟩
    · split at h
      · cases h
      · cases h; exact ⟨hg, by omega⟩
theorem rdT_gs {f : Nat → Int32} {n m z : Nat} {g : Nat → Gs} (h : rdT f n = .ok (m, z, g)) : m ≤ 8 ∧ z ≤ 8 ∧ ∀ i, i < z → GsOk (g i) := by
  unfold rdT at h
  split at h
  · cases h2 : fgo f n (skp f n 0 + 1) 1 8 with
    | none => rw [h2] at h; cases h
    | some r =>
      rw [h2] at h; simp only [] at h
      cases h3 : rdL f n 8 0 (skp f n (skp f n 0 + 2)) (fun _ => (0, 0, 0, 0)) with
      | error e => rw [h3] at h; cases h
      | ok x =>
        rw [h3] at h; simp only [] at h
        cases h
        have a := (fgo_le (by omega) (by omega) h2).1
        have b := rdL_gs _ _ _ _ _ _ h3 (fun i hi => absurd hi (Nat.not_lt_zero i))
        exact ⟨a, by omega, b.1⟩
  · cases h
theorem rdT_e {f : Nat → Int32} {n e : Nat} (hn : n ≤ 60) (h : rdT f n = .error e) : e < 2 ^ 20 := by
  have key : ∀ (k z p : Nat) (g : Nat → Gs) (e : Nat), rdL f n k z p g = .error e → p ≤ 100 → e < 200 := by
    intro k
    induction k with
    | zero =>
      intro z p g e h hp
      unfold rdL at h
      split at h
      · cases h; omega
      · cases h
    | succ k ih =>
      intro z p g e h hp
      unfold rdL at h
      split at h
      · cases h2 : rdG f n p with
        | error e2 =>
          rw [h2] at h; cases h
          unfold rdG at h2
          repeat' split at h2
          all_goals first | cases h2; omega | cases h2
        | ok x =>
          rw [h2] at h; simp only [] at h
          have := skp_le f n (p + 4)
          exact ih _ _ _ _ h (by omega)
      · split at h
        · cases h; omega
        · cases h
  have s0 := skp_le f n 0
  unfold rdT at h
  split at h
  · cases h2 : fgo f n (skp f n 0 + 1) 1 8 with
    | none => rw [h2] at h; cases h; omega
    | some r =>
      rw [h2] at h; simp only [] at h
      cases h3 : rdL f n 8 0 (skp f n (skp f n 0 + 2)) (fun _ => (0, 0, 0, 0)) with
      | error e2 =>
        rw [h3] at h; cases h
        have := skp_le f n (skp f n 0 + 2)
        have := key _ _ _ _ _ h3 (by omega)
        omega
      | ok x => rw [h3] at h; cases h
  · cases h; omega
theorem Eqv.scC {M' : Mem} (e : Eqv (fun a _ => 7 ≤ a ∧ a ≤ 11) M M') : Eqv scrC M M' := e.mono (by unfold scrC; omega)
theorem Eqv.scM {M' : Mem} (e : Eqv PR M M') : Eqv scrM M M' := e.mono (by unfold PR scrM; omega)
theorem fill_loop {n : Nat} (hn : n ≤ 8) (g : Nat → Gs) (M0 : Mem) (hz : M0.1 12 2 = nI n) (hd : ∀ i, i < n → DrfC M0 i (g i)) : ∀ (k i : Nat) (M : Mem), i + k = n → Eqv (fun a k => 55 ≤ a ∧ a ≤ 62 ∧ k < 4) M0 M →
    (∀ j, j < i → M.1 (55 + j) 0 = nI (g j).1 ∧ M.1 (55 + j) 1 = nI (g j).2.1 ∧ M.1 (55 + j) 2 = nI (g j).2.2.1 ∧ M.1 (55 + j) 3 = nI (g j).2.2.2) →
    (∀ M', Eqv (fun a k => 55 ≤ a ∧ a ≤ 62) M0 M' → DrC (n, 0, g, []) (upI M' 12 3 0) → False → True) →
    (∀ M', Eqv (fun a k => (55 ≤ a ∧ a ≤ 62) ∨ (a = 14 ∧ k = 1)) M0 M' → M'.1 14 1 = nI 0 → (∀ j, j < n → GlAt M' (55 + j) ((g j).1, (g j).2.1, (g j).2.2.1, (g j).2.2.2, 0) ∧ M'.1 (55 + j) 5 = nI 0) → Q none M') → P_X3_fill_18 G (nI i) M Q := by
  intro k
  induction k with
  | zero =>
    intro i M hi e hv _ hQ
    have : i = n := by omega
    subst this
    refine v_X3_fill_18 ?_
    rw [e.i (by omega), hz]
    refine br_f (nI_nlt (Nat.le_refl _) (by omega)) ?_
    rintro _ rfl
    refine replay_ok (n := i) (L := []) hn ⟨by decide, fun d hd => by cases hd⟩ (by rw [upI_n _ _ (by omega), e.i (by omega)]; exact hz) (upI_s _ _ _ _) (fun j d hj => by cases hj) fun M1 e1 w1 => RV.mk ?_
    refine hQ M1 ((e.mono (by omega)).tr (Eqv.tr (M1 := upI M 14 1 0) (Eqv.rf.upI (by omega)) (e1.mono (by unfold PW; omega)))) (by rw [e1.i (by unfold PW; omega), upI_s]; rfl) fun j hj => ?_
    obtain ⟨a, b, c, d⟩ := hv j hj
    exact ⟨⟨by rw [e1.i (by unfold PW; omega), upI_n _ _ (by omega)]; exact a, by rw [e1.i (by unfold PW; omega), upI_n _ _ (by omega)]; exact b, by rw [e1.i (by unfold PW; omega), upI_n _ _ (by omega)]; exact c, by rw [e1.i (by unfold PW; omega), upI_n _ _ (by omega)]; exact d, (w1 j hj).1⟩, (w1 j hj).2⟩
  | succ k ih =>
    intro i M hi e hv hx hQ
    obtain ⟨d1, d2, d3, d4⟩ := hd i (by omega)
    refine v_X3_fill_18 ?_
    rw [e.i (by omega), hz]
    refine br_t (nI_lt (by omega) (by omega)) ⟨vin (by omega), vin (by omega), ?_⟩
    rintro M1 e1
    refine ⟨vin (by omega), vin (by omega), ?_⟩
    rintro M2 e2
    refine ⟨vin (by omega), vin (by omega), ?_⟩
    rintro M3 e3
    refine ⟨vin (by omega), vin (by omega), ?_⟩
    rintro M4 e4
    rw [ncl (by omega), e.i (by omega), d1] at e1
    have v1 : Eqv (fun a k => 55 ≤ a ∧ a ≤ 62 ∧ k < 4) M0 M1 := by rw [e1]; exact e.upI (by omega)
    rw [ncl (by omega), v1.i (by omega), d2] at e2
    have v2 : Eqv (fun a k => 55 ≤ a ∧ a ≤ 62 ∧ k < 4) M0 M2 := by rw [e2]; exact v1.upI (by omega)
    rw [ncl (by omega), v2.i (by omega), d3] at e3
    have v3 : Eqv (fun a k => 55 ≤ a ∧ a ≤ 62 ∧ k < 4) M0 M3 := by rw [e3]; exact v2.upI (by omega)
    rw [ncl (by omega), v3.i (by omega), d4] at e4
    have v4 : Eqv (fun a k => 55 ≤ a ∧ a ≤ 62 ∧ k < 4) M0 M4 := by rw [e4]; exact v3.upI (by omega)
    rw [nI_1]
    refine ih (i + 1) M4 (by omega) v4 (fun j hj => ?_) hx hQ
    rw [e4, e3, e2, e1]
    by_cases c : j = i
    · subst c
      refine ⟨?_, ?_, ?_, ?_⟩
      · rw [upI_n _ _ (by omega), upI_n _ _ (by omega), upI_n _ _ (by omega), upI_s]
      · rw [upI_n _ _ (by omega), upI_n _ _ (by omega), upI_s]
      · rw [upI_n _ _ (by omega), upI_s]
      · rw [upI_s]
    · refine ⟨?_, ?_, ?_, ?_⟩ <;> rw [upI_n _ _ (by omega), upI_n _ _ (by omega), upI_n _ _ (by omega), upI_n _ _ (by omega)]
      · exact (hv j (by omega)).1
      · exact (hv j (by omega)).2.1
      · exact (hv j (by omega)).2.2.1
      · exact (hv j (by omega)).2.2.2
theorem fill_ok {m z : Nat} {g : Nat → Gs} (hz8 : z ≤ 8) (hz : M.1 7 4 = nI z) (hm : M.1 7 5 = nI m) (hd : ∀ i, i < z → DrfC M i (g i)) (h : ∀ M', Eqv (fun a k => a = 12 ∨ (a = 14 ∧ k = 1) ∨ (55 ≤ a ∧ a ≤ 62)) M M' → DrC (z, m, g, []) M' → Q none M') : C_X3_fill G M Q := by
  refine v_X3_fill ?_
  rintro _ rfl _ rfl
  rw [upI_n _ _ (show ¬ (7 = 12 ∧ 5 = 2) by omega), hz, hm]
  have e0 : Eqv (fun a k => a = 12 ∧ 2 ≤ k) M (upI (upI M 12 2 (nI z)) 12 3 (nI m)) := (Eqv.rf.upI (by omega)).upI (by omega)
  refine fill_loop hz8 g _ (by rw [upI_n _ _ (by omega), upI_s]) (fun i hi => ?_) z 0 _ (by omega) Eqv.rf (fun j hj => absurd hj (Nat.not_lt_zero j)) (fun _ _ _ _ => trivial) fun M1 e1 h1 h2 => ?_
  · obtain ⟨a, b, c, d⟩ := hd i hi
    exact ⟨by rw [e0.i (by omega)]; exact a, by rw [e0.i (by omega)]; exact b, by rw [e0.i (by omega)]; exact c, by rw [e0.i (by omega)]; exact d⟩
  · refine h M1 ((e0.mono (by omega)).tr (e1.mono (by omega))) ⟨?_, ?_, h2, h1, fun j d hj => by cases hj⟩
    · rw [e1.i (by omega), upI_n _ _ (by omega), upI_s]
    · rw [e1.i (by omega), upI_s]
theorem kept_loop {S : St} (M0 : Mem) : ∀ (k i : Nat) (M : Mem), i + k = 3 → Eqv (fun a j => 17 ≤ a ∧ a ≤ 19 ∧ j = 1) M0 M → (∀ j, j < i → M.1 (17 + j) 1 = -1) →
    (∀ M', Eqv (fun a j => 17 ≤ a ∧ a ≤ 19 ∧ j = 1) M0 M' → KeC (fun _ => none) M' → Q (some (.int (M'.1 12 2))) M') → P_X10_drawer_45 G (nI i) M Q := by
  intro k
  induction k with
  | zero =>
    intro i M hi e hv hQ
    have : i = 3 := by omega
    subst this
    exact v_X10_drawer_45 (br_f (by decide) (hQ M e fun j hj => ⟨hv j hj, fun L hL => by cases hL⟩))
  | succ k ih =>
    intro i M hi e hv hQ
    refine v_X10_drawer_45 (br_t (show nI i < nI 3 from nI_lt (by omega) (by omega)) ⟨vin (by omega), ?_⟩)
    rintro _ rfl
    rw [ncl (by omega), nI_1]
    refine ih (i + 1) _ (by omega) (e.upI (by omega)) (fun j hj => ?_) hQ
    by_cases c : j = i
    · subst c; rw [upI_s]
    · rw [upI_n _ _ (by omega)]; exact hv j (by omega)
end DRW
