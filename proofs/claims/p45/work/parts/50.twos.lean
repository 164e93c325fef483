/-! the pairs of the drawer, in their order -/
section TWO
variable {G : Glob} {M : Mem} {Q : Option Value → Mem → Prop} {n : Nat} {S : St} {D : Dr}
abbrev Tw : Type := Nat × Nat
def okT (D : Dr) (i j : Nat) : Bool := whO (dL D) i == 0 && (whO (dL D) j == 0 && (wD D i j).isSome)
theorem okT_a {i j : Nat} (h : ¬ whO (dL D) i = 0) : okT D i j = false := by unfold okT; rw [beq_eq_false_iff_ne.mpr h]; rfl
theorem okT_b {i j : Nat} (h : ¬ whO (dL D) j = 0) : okT D i j = false := by unfold okT; rw [beq_eq_false_iff_ne.mpr h]; cases (whO (dL D) i == 0) <;> rfl
theorem okT_c {i j : Nat} (h : wD D i j = none) : okT D i j = false := by unfold okT; rw [h]; cases (whO (dL D) i == 0) <;> cases (whO (dL D) j == 0) <;> rfl
theorem okT_y {i j : Nat} (h1 : whO (dL D) i = 0) (h2 : whO (dL D) j = 0) (h3 : ¬ wD D i j = none) : okT D i j = true := by
  obtain ⟨v, hv⟩ := Option.ne_none_iff_exists'.mp h3
  unfold okT
  rw [h1, h2, hv]
  rfl
theorem okT_s {i j : Nat} (h : okT D i j = true) : ∃ v, wD D i j = some v := by
  cases q : wD D i j with
  | none => rw [okT_c q] at h; cases h
  | some v => exact ⟨v, rfl⟩
theorem okT_w {i j : Nat} (h : okT D i j = true) : whO (dL D) i = 0 ∧ whO (dL D) j = 0 := by
  refine ⟨?_, ?_⟩
  · by_cases c : whO (dL D) i = 0
    · exact c
    · rw [okT_a c] at h; cases h
  · by_cases c : whO (dL D) j = 0
    · exact c
    · rw [okT_b c] at h; cases h
def twJ (D : Dr) (i : Nat) : Nat → Nat → List Tw → List Tw
  | 0, _, L => L
  | k + 1, j, L => twJ D i k (j + 1) (if okT D i j then L ++ [(i, j)] else L)
theorem twJ_n {i k j : Nat} {L : List Tw} (h : okT D i j = false) : twJ D i (k + 1) j L = twJ D i k (j + 1) L := by
  show twJ D i k (j + 1) (if okT D i j then L ++ [(i, j)] else L) = _
  rw [h]; rfl
theorem twJ_y {i k j : Nat} {L : List Tw} (h : okT D i j = true) : twJ D i (k + 1) j L = twJ D i k (j + 1) (L ++ [(i, j)]) := by
  show twJ D i k (j + 1) (if okT D i j then L ++ [(i, j)] else L) = _
  rw [if_pos h]
def twI (D : Dr) : Nat → Nat → List Tw → List Tw
  | 0, _, L => L
  | k + 1, i, L => twI D k (i + 1) (twJ D i k (i + 1) L)
/-- the pairs that the drawer makes, in order -/
def twos (D : Dr) : List Tw := twI D (dn D) 0 []
def TwOk (D : Dr) (L : List Tw) : Prop := ∀ p ∈ L, p.1 < p.2 ∧ p.2 < dn D ∧ okT D p.1 p.2 = true
def TwA (a : Nat) (L : List Tw) (M : Mem) : Prop := ∀ (c : Nat) (p : Tw), L[c]? = some p → M.1 a c = nI (10 * p.1 + p.2)
def tri : Nat → Nat
  | 0 => 0
  | k + 1 => k + tri k
theorem tri_28 : ∀ n, n < 9 → tri n ≤ 28 := by decide
theorem TwOk.app {L : List Tw} (h : TwOk D L) {i j : Nat} (hij : i < j) (hj : j < dn D) (ho : okT D i j = true) : TwOk D (L ++ [(i, j)]) := fun p hp => by
  rcases List.mem_append.mp hp with q | q
  · exact h p q
  · rw [List.mem_singleton.mp q]; exact ⟨hij, hj, ho⟩
theorem gt_cases {α : Type} {L : List α} {d e : α} {j : Nat} (h : (L ++ [d])[j]? = some e) : (j < L.length ∧ L[j]? = some e) ∨ (j = L.length ∧ e = d) := by
  by_cases c : j < L.length
  · rw [List.getElem?_append_left c] at h; exact Or.inl ⟨c, h⟩
  · rw [List.getElem?_append_right (by omega)] at h
    cases q : j - L.length with
    | zero => rw [q] at h; simp at h; exact Or.inr ⟨by omega, h.symm⟩
    | succ t => rw [q] at h; simp at h
theorem TwA.app {a : Nat} {L : List Tw} {M1 : Mem} (h : TwA a L M) {p : Tw} (e : ∀ c, c < L.length → M1.1 a c = M.1 a c) (hp : M1.1 a L.length = nI (10 * p.1 + p.2)) : TwA a (L ++ [p]) M1 := fun c q hq => by
  rcases gt_cases hq with ⟨g1, g2⟩ | ⟨g1, g2⟩
  · rw [e c g1]; exact h c q g2
  · rw [g1, g2]; exact hp
/-- the longest list behind the loops -/
theorem twJ_len (D : Dr) (i : Nat) : ∀ (k j : Nat) (L : List Tw), (twJ D i k j L).length ≤ L.length + k
  | 0, j, L => Nat.le_refl _
  | k + 1, j, L => by
    cases q : okT D i j with
    | false => rw [twJ_n q]; have := twJ_len D i k (j + 1) L; omega
    | true => rw [twJ_y q]; have := twJ_len D i k (j + 1) (L ++ [(i, j)]); rw [List.length_append, List.length_singleton] at this; omega
theorem twI_len (D : Dr) : ∀ (k i : Nat) (L : List Tw), (twI D k i L).length ≤ L.length + tri k
  | 0, i, L => Nat.le_refl _
  | k + 1, i, L => by
    have h1 := twI_len D k (i + 1) (twJ D i k (i + 1) L)
    have h2 := twJ_len D i k (i + 1) L
    show (twI D k (i + 1) (twJ D i k (i + 1) L)).length ≤ L.length + (k + tri k)
    omega
theorem twJ_ok {i : Nat} : ∀ (k j : Nat) (L : List Tw), i < j → j + k = dn D → TwOk D L → TwOk D (twJ D i k j L)
  | 0, j, L, _, _, h => h
  | k + 1, j, L, hi, hj, h => by
    cases q : okT D i j with
    | false => rw [twJ_n q]; exact twJ_ok k (j + 1) L (by omega) (by omega) h
    | true => rw [twJ_y q]; exact twJ_ok k (j + 1) _ (by omega) (by omega) (h.app hi (by omega) q)
theorem twI_ok : ∀ (k i : Nat) (L : List Tw), i + k = dn D → TwOk D L → TwOk D (twI D k i L)
  | 0, i, L, _, h => h
  | k + 1, i, L, hi, h => twI_ok k (i + 1) _ (by omega) (twJ_ok k (i + 1) L (by omega) (by omega) h)
theorem twos_ok (D : Dr) : TwOk D (twos D) := twI_ok (dn D) 0 [] (by omega) fun p hp => by cases hp
theorem twos_len (h : dn D ≤ 8) : (twos D).length ≤ 28 := by
  have h1 := twI_len D (dn D) 0 []
  have h2 := tri_28 (dn D) (by omega)
  show (twI D (dn D) 0 []).length ≤ 28
  rw [List.length_nil] at h1
  omega
theorem ap1 {L : List Tw} {p : Tw} : (L ++ [p]).length = L.length + 1 := by rw [List.length_append, List.length_singleton]
def PT (a k : Nat) : Prop := a = 93 ∨ (a = 71 ∧ k = 34)
theorem RM.tw {M1 : Mem} (hM : RM S M) (e : Eqv PT M M1) : RM S M1 := hM.scr (e.mono (by unfold PT scrM; omega))
/-! the class's copy of the drawer -/
/-- a glove worn otherwise -/
def gV (D : Dr) (W : Nat → Nat) (i : Nat) : Gl := ((dg D i).1, (dg D i).2.1, (dg D i).2.2.1, (dg D i).2.2.2, W i)
abbrev W0 (D : Dr) : Nat → Nat := wrO (dL D)
theorem gV_ok (hk : DOk D) {W : Nat → Nat} {i : Nat} (hi : i < dn D) (hw : W i < 64) : GlOk (gV D W i) := by
  obtain ⟨a, b, c, d⟩ := hk.2.2.1 i hi
  exact ⟨a, b, c, d, hw⟩
theorem hasw_y (hz : M.1 29 2 = nI n) (hn : n ≤ 8) {i : Nat} (hi : i < n) (h : Q (some (.int 1)) M) : C_X3_hasw G (nI i) M Q :=
  v_X3_hasw (br_f (nI_pos (by omega)) (by rw [hz]; exact br_t (nI_lt hi (by omega)) h))
theorem insidew_ok (hz : M.1 29 2 = nI n) (hn : n ≤ 8) {i u : Nat} (hi : i < n) (h5 : M.1 (63 + i) 5 = nI u) (hu : u < 3) (h : Q (some (.int (bI (u == 0)))) M) : C_X3_isInsidew G (nI i) M Q := by
  refine v_X3_isInsidew (hasw_y hz hn hi (RI.mk (br_f (by decide) ⟨vin (by omega), ?_⟩)))
  rw [ncl (by omega), h5]
  rcases (show u = 0 ∨ u = 1 ∨ u = 2 by omega) with rfl | rfl | rfl
  · exact br_t rfl h
  · exact br_f (by decide) h
  · exact br_f (by decide) h
/-- the copies stand -/
def CpC (D : Dr) (M : Mem) : Prop := M.1 29 2 = nI (dn D) ∧ ∀ i, i < dn D → GlAt M (63 + i) (glD D i) ∧ M.1 (63 + i) 5 = nI (whO (dL D) i)
def PGa (a k : Nat) : Prop := a = 33 ∨ (a = 28 ∧ 4 ≤ k ∧ k ≤ 5)
theorem CpC.eqv {M1 : Mem} (h : CpC D M) (h8 : dn D ≤ 8) (e : Eqv PGa M M1) : CpC D M1 := by
  refine ⟨by rw [e.i (by unfold PGa; omega)]; exact h.1, fun i hi => ⟨(h.2 i hi).1.eqv e (by unfold PGa; omega), ?_⟩⟩
  rw [e.i (by unfold PGa; omega)]
  exact (h.2 i hi).2
/-- no pair of the list is better than the dearest -/
def DeaC (D : Dr) (L : List Tw) (M : Mem) : Prop := ∃ d, M.1 28 5 = nI d ∧ d ≤ 24 ∧ ∀ p ∈ L, ∀ v, wD D p.1 p.2 = some v → v ≤ d
theorem g72_loop (hk : SOk S) (M0 : Mem) (hc0 : CpC S.2.2.1 M0) {i : Nat} (hi : i < dn S.2.2.1) : ∀ (k j : Nat) (L : List Tw) (M : Mem), j + k = dn S.2.2.1 → i < j → Eqv PGa M0 M → M.1 28 4 = nI L.length → TwA 33 L M → DeaC S.2.2.1 L M → L.length + k ≤ 28 →
    (∀ M', Eqv PGa M0 M' → M'.1 28 4 = nI (twJ S.2.2.1 i k j L).length → TwA 33 (twJ S.2.2.1 i k j L) M' → DeaC S.2.2.1 (twJ S.2.2.1 i k j L) M' → P_X0_gather_57 G (nI (i + 1)) M' Q) → P_X0_gather_72 G (nI i) (nI j) M Q := by
  have h8 := hk.2.2.1.1
  intro k
  induction k with
  | zero =>
    intro j L M hj hij e hl hL hD hb h
    have : j = dn S.2.2.1 := by omega
    subst this
    refine v_X0_gather_72 ?_
    rw [(hc0.eqv h8 e).1, nI_1 i]
    exact br_f (nI_nlt (Nat.le_refl _) (by omega)) (h M e hl hL hD)
  | succ k ih =>
    intro j L M hj hij e hl hL hD hb h
    have hc := hc0.eqv h8 e
    have hj2 : j < dn S.2.2.1 := by omega
    have skip : okT S.2.2.1 i j = false → P_X0_gather_72 G (nI i) (nI (j + 1)) M Q := fun q =>
      ih (j + 1) L M (by omega) (by omega) e hl hL hD (by omega) (by rw [twJ_n q] at h; exact h)
    refine v_X0_gather_72 ?_
    rw [hc.1, nI_1 j, ncl (by omega), ncl (by omega)]
    refine br_t (nI_lt hj2 (by omega)) ⟨vin (by omega), vin (by omega), ?_⟩
    refine goodWith_ok (kdWn (by omega)) (kdWn (by omega)) (hc.2 i hi).1 (glD_ok hk.2.2.1 hi) (hc.2 j hj2).1 (glD_ok hk.2.2.1 hj2) (RI.mk ?_)
    refine insidew_ok hc.1 h8 hi (hc.2 i hi).2 (whO_lt _ _) (RI.mk ?_)
    rw [bu0]
    refine ⟨fun c => skip (okT_a c), fun c => insidew_ok hc.1 h8 hj2 (hc.2 j hj2).2 (whO_lt _ _) (RI.mk ?_)⟩
    rw [bu0]
    refine ⟨fun d => skip (okT_b d), fun d => ?_⟩
    rw [← wD_in hi hj2, oI_n9' (fun v hv => wD_lt hk.2.2.1 hv)]
    refine ⟨fun f => skip (okT_c f), fun f => ?_⟩
    have ho := okT_y (Decidable.not_not.mp c) (Decidable.not_not.mp d) f
    obtain ⟨v, hv⟩ := Option.ne_none_iff_exists'.mp f
    have hlt := wD_lt hk.2.2.1 hv
    obtain ⟨de, d1, d2, d3⟩ := hD
    rw [twJ_y ho] at h
    rw [hl, ncl (by omega), show (10 : Int32) = nI 10 from rfl, pk_mul, nI_add, hv, oI_some]
    refine ⟨vin (by omega), ?_⟩
    rintro _ rfl
    rw [upI_n _ _ (by omega), hl, nI_1]
    rintro _ rfl
    rw [upI_n _ _ (by omega), upI_n _ _ (by omega), d1, nmx (by omega) (by omega)]
    rintro M3 e3
    have v3 : Eqv PGa M0 M3 := by rw [e3]; exact ((e.upI (Or.inl rfl)).upI (by unfold PGa; omega)).upI (by unfold PGa; omega)
    refine ih (j + 1) (L ++ [(i, j)]) M3 (by omega) (by omega) v3 (by rw [e3, upI_n _ _ (by omega), upI_s, ap1]) (hL.app (fun t ht => ?_) ?_) ⟨if de < v then v else de, by rw [e3, upI_s], by split <;> omega, fun p hp u hu => ?_⟩ (by rw [ap1]; omega) h
    · rw [e3, upI_n _ _ (by omega), upI_n _ _ (by omega), upI_n _ _ (by omega)]
    · rw [e3, upI_n _ _ (by omega), upI_n _ _ (by omega), upI_s]
    · rcases List.mem_append.mp hp with q | q
      · have := d3 p q u hu; split <;> omega
      · rw [List.mem_singleton.mp q] at hu
        have : v = u := Option.some.inj (hv.symm.trans hu)
        split <;> omega
theorem g57_loop (hk : SOk S) (M0 : Mem) (hc0 : CpC S.2.2.1 M0) : ∀ (k i : Nat) (L : List Tw) (M : Mem), i + k = dn S.2.2.1 → Eqv PGa M0 M → M.1 28 4 = nI L.length → TwA 33 L M → DeaC S.2.2.1 L M → L.length + tri k ≤ 28 →
    (∀ M', Eqv PGa M0 M' → M'.1 28 4 = nI (twI S.2.2.1 k i L).length → TwA 33 (twI S.2.2.1 k i L) M' → DeaC S.2.2.1 (twI S.2.2.1 k i L) M' → Q none M') → P_X0_gather_57 G (nI i) M Q := by
  have h8 := hk.2.2.1.1
  intro k
  induction k with
  | zero =>
    intro i L M hi e hl hL hD hb h
    have : i = dn S.2.2.1 := by omega
    subst this
    refine v_X0_gather_57 ?_
    rw [(hc0.eqv h8 e).1]
    exact br_f (nI_nlt (Nat.le_refl _) (by omega)) (h M e hl hL hD)
  | succ k ih =>
    intro i L M hi e hl hL hD hb h
    have hb' : L.length + (k + tri k) ≤ 28 := hb
    refine v_X0_gather_57 ?_
    rw [(hc0.eqv h8 e).1, nI_1 i]
    refine br_t (nI_lt (by omega) (by omega)) (g72_loop hk M0 hc0 (by omega) k (i + 1) L M (by omega) (by omega) e hl hL hD (by omega) fun M1 e1 l1 L1 D1 => ?_)
    have := twJ_len S.2.2.1 i k (i + 1) L
    exact ih (i + 1) _ M1 (by omega) e1 l1 L1 D1 (by omega) h
def PCa (a k : Nat) : Prop := (63 ≤ a ∧ a ≤ 70) ∨ (a = 29 ∧ k = 2)
theorem g13_loop (hk : SOk S) (M0 : Mem) (hC0 : RC S M0) : ∀ (k i : Nat) (M : Mem), i + k = dn S.2.2.1 → Eqv PCa M0 M → M.1 29 2 = nI (dn S.2.2.1) → (∀ j, j < i → GlAt M (63 + j) (glD S.2.2.1 j) ∧ M.1 (63 + j) 5 = nI (whO (dL S.2.2.1) j)) →
    (∀ M', Eqv (fun a k => PCa a k ∨ PGa a k) M0 M' → CpC S.2.2.1 M' → M'.1 28 4 = nI (twos S.2.2.1).length → TwA 33 (twos S.2.2.1) M' → DeaC S.2.2.1 (twos S.2.2.1) M' → Q none M') → P_X0_gather_13 G (nI i) M Q := by
  have h8 := hk.2.2.1.1
  have h2 := tri_28 (dn S.2.2.1) (by omega)
  intro k
  induction k with
  | zero =>
    intro i M hi e hz hc h
    have : i = dn S.2.2.1 := by omega
    subst this
    have hC : RC S M := hC0.scr hk (e.mono (by unfold PCa scrC; omega))
    refine v_X0_gather_13 ?_
    rw [hC.nz]
    refine br_f (nI_nlt (Nat.le_refl _) (by omega)) ?_
    rintro M2 e2 M3 e3
    have v3 : Eqv PGa M M3 := by rw [e3, e2]; exact (Eqv.rf.upI (by unfold PGa; omega)).upI (by unfold PGa; omega)
    have c3 : CpC S.2.2.1 M3 := CpC.eqv (M := M) ⟨hz, hc⟩ h8 v3
    refine g57_loop hk M3 c3 (dn S.2.2.1) 0 [] M3 (by omega) Eqv.rf (by rw [e3, upI_n _ _ (by omega), e2, upI_s]; rfl) (fun c p h => by simp at h) ⟨0, by rw [e3, upI_s]; rfl, by omega, fun p hp => by cases hp⟩ (by rw [List.length_nil]; omega) fun M4 e4 l4 L4 D4 => ?_
    exact h M4 ((e.mono fun a k q => Or.inl q).tr ((v3.tr e4).mono fun a k q => Or.inr q)) (c3.eqv h8 e4) l4 L4 D4
  | succ k ih =>
    intro i M hi e hz hc h
    have hi2 : i < dn S.2.2.1 := by omega
    have hC : RC S M := hC0.scr hk (e.mono (by unfold PCa scrC; omega))
    refine v_X0_gather_13 ?_
    rw [hC.nz, nI_1 i, ncl (by omega)]
    refine br_t (nI_lt hi2 (by omega)) ⟨vin (by omega), vin (by omega), ?_⟩
    refine like_ok (kdWn (by omega)) (kdGl (by omega)) (by omega) (hC.gl hi2) (hC.wh hi2) fun M1 e1 g1 u1 => RV.mk ?_
    refine ih (i + 1) M1 (by omega) (e.tr (e1.mono (by unfold PCa; omega))) (by rw [e1.i (by omega)]; exact hz) (fun j hj => ?_) h
    by_cases c : j = i
    · rw [c]; exact ⟨g1, u1⟩
    · refine ⟨(hc j (by omega)).1.eqv e1 (by omega), ?_⟩
      rw [e1.i (by omega)]; exact (hc j (by omega)).2
theorem gather_ok (hk : SOk S) (hC : RC S M) (h : ∀ M', Eqv (fun a k => PCa a k ∨ PGa a k) M M' → CpC S.2.2.1 M' → M'.1 28 4 = nI (twos S.2.2.1).length → TwA 33 (twos S.2.2.1) M' → DeaC S.2.2.1 (twos S.2.2.1) M' → Q none M') : C_X0_gather G M Q := by
  refine v_X0_gather ?_
  rintro M1 e1
  have v1 : Eqv PCa M M1 := by rw [e1]; exact Eqv.rf.upI (Or.inr ⟨rfl, rfl⟩)
  have hC1 : RC S M1 := hC.scr hk (v1.mono (by unfold PCa scrC; omega))
  refine g13_loop hk M1 hC1 (dn S.2.2.1) 0 M1 (by omega) Eqv.rf (by rw [e1, upI_s]; exact hC.nz) (fun j hj => absurd hj (Nat.not_lt_zero j)) fun M2 e2 => h M2 ((v1.mono fun a k q => Or.inl q).tr e2)
end TWO
