/-! promise 26: what to wear on which days -/
section DAY
variable {G : Glob} {M : Mem} {Q : Option Value → Mem → Prop} {n : Nat} {S : St} {D : Dr}
def tc (D : Dr) (c : Nat) : Tw := ((twos D)[c]?).getD (0, 0)
abbrev tm (D : Dr) : Nat := (twos D).length
theorem tc_get {c : Nat} (h : c < tm D) : (twos D)[c]? = some (tc D c) := by
  unfold tc
  rw [List.getElem?_eq_getElem h]
  rfl
theorem tc_ok {c : Nat} (h : c < tm D) : (tc D c).1 < (tc D c).2 ∧ (tc D c).2 < dn D ∧ okT D (tc D c).1 (tc D c).2 = true := twos_ok D _ (List.mem_of_getElem? (tc_get h))
/-- both of a pair are worn once more -/
def inc (W : Nat → Nat) (p : Tw) : Nat → Nat := fun k => if k = p.1 ∨ k = p.2 then W k + 1 else W k
theorem inc_y {W : Nat → Nat} {p : Tw} {k : Nat} (h : k = p.1 ∨ k = p.2) : inc W p k = W k + 1 := if_pos h
theorem inc_n {W : Nat → Nat} {p : Tw} {k : Nat} (h : ¬ (k = p.1 ∨ k = p.2)) : inc W p k = W k := if_neg h
theorem inc_comm (W : Nat → Nat) (p q : Tw) : inc (inc W p) q = inc (inc W q) p := by
  funext k
  unfold inc
  by_cases a : k = p.1 ∨ k = p.2 <;> by_cases b : k = q.1 ∨ k = q.2 <;> simp [a, b]
def wv (D : Dr) (W : Nat → Nat) (p : Tw) : Nat := gwN (gV D W p.1) (gV D W p.2)
theorem wv_gw {W : Nat → Nat} {c : Nat} (h : c < tm D) : gw (gV D W (tc D c).1) (gV D W (tc D c).2) = some (wv D W (tc D c)) := by
  obtain ⟨a, b, o⟩ := tc_ok h
  obtain ⟨v, hv⟩ := okT_s o
  rw [wD_in (by omega) b] at hv
  have hm : mp (glD D (tc D c).1) (glD D (tc D c).2) = true := by
    cases q : mp (glD D (tc D c).1) (glD D (tc D c).2) with
    | true => rfl
    | false => unfold gw at hv; rw [q] at hv; cases hv
  have hm2 : mp (gV D W (tc D c).1) (gV D W (tc D c).2) = true := hm
  unfold gw
  rw [if_pos hm2]
  rfl
theorem wv_0 {c : Nat} (h : c < tm D) : wD D (tc D c).1 (tc D c).2 = some (wv D (W0 D) (tc D c)) := by
  obtain ⟨a, b, _⟩ := tc_ok h
  rw [wD_in (by omega) b]
  exact wv_gw (W := W0 D) h
theorem wmN_mono {k w r r' : Nat} (h : r ≤ r') : wmN k w r' ≤ wmN k w r := by
  have hb : bareN w r' ≤ bareN w r := by unfold bareN; omega
  unfold wmN
  split
  · omega
  · omega
  · split <;> split <;> omega
  · omega
  · omega
theorem wv_mono {W W' : Nat → Nat} (h : ∀ i, W i ≤ W' i) (p : Tw) : wv D W' p ≤ wv D W p := by
  have a : wm (gV D W' p.1) ≤ wm (gV D W p.1) := wmN_mono (h p.1)
  have b : wm (gV D W' p.2) ≤ wm (gV D W p.2) := wmN_mono (h p.2)
  show (if (dg D p.1).1 = 5 ∨ (dg D p.2).1 = 5 then wm (gV D W' p.1) + wm (gV D W' p.2) else wm (gV D W' p.1) + wm (gV D W' p.2) - 2 * apN (dg D p.1).2.1 (dg D p.2).2.1) ≤ (if (dg D p.1).1 = 5 ∨ (dg D p.2).1 = 5 then wm (gV D W p.1) + wm (gV D W p.2) else wm (gV D W p.1) + wm (gV D W p.2) - 2 * apN (dg D p.1).2.1 (dg D p.2).2.1)
  split <;> omega
/-- what k days make, by a row's last k figures -/
def SS (D : Dr) : Nat → (Nat → Nat) → Nat → Nat
  | 0, _, _ => 0
  | k + 1, W, row => wv D W (tc D (row / tm D ^ k % tm D)) + SS D k (inc W (tc D (row / tm D ^ k % tm D))) row
/-- how much is worn behind them -/
def WS (D : Dr) : Nat → (Nat → Nat) → Nat → (Nat → Nat)
  | 0, W, _ => W
  | k + 1, W, row => WS D k (inc W (tc D (row / tm D ^ k % tm D))) row
theorem WS_inc (D : Dr) (row : Nat) (p : Tw) : ∀ (k : Nat) (W : Nat → Nat), WS D k (inc W p) row = inc (WS D k W row) p
  | 0, W => rfl
  | k + 1, W => by
    show WS D k (inc (inc W p) (tc D (row / tm D ^ k % tm D))) row = inc (WS D k (inc W (tc D (row / tm D ^ k % tm D))) row) p
    rw [inc_comm, WS_inc D row p k]
theorem WS_s (D : Dr) (row k : Nat) (W : Nat → Nat) : WS D (k + 1) W row = inc (WS D k W row) (tc D (row / tm D ^ k % tm D)) := WS_inc D row _ k W
theorem inc_le {W : Nat → Nat} {p : Tw} (i : Nat) : W i ≤ inc W p i ∧ inc W p i ≤ W i + 1 := by unfold inc; split <;> omega
theorem WS_le (D : Dr) (row : Nat) : ∀ (k : Nat) (W : Nat → Nat) (i : Nat), WS D k W row i ≤ W i + k
  | 0, W, i => Nat.le_refl _
  | k + 1, W, i => by
    have h1 := WS_le D row k (inc W (tc D (row / tm D ^ k % tm D))) i
    have h2 := inc_le (W := W) (p := tc D (row / tm D ^ k % tm D)) i
    show WS D k (inc W (tc D (row / tm D ^ k % tm D))) row i ≤ W i + (k + 1)
    omega
theorem SS_le {de : Nat} (hm : 0 < tm D) (hde : ∀ c, c < tm D → wv D (W0 D) (tc D c) ≤ de) (row : Nat) : ∀ (k : Nat) (W : Nat → Nat), (∀ i, W0 D i ≤ W i) → SS D k W row ≤ k * de
  | 0, W, _ => Nat.zero_le _
  | k + 1, W, h => by
    have h1 := SS_le hm hde row k (inc W (tc D (row / tm D ^ k % tm D))) fun i => Nat.le_trans (h i) (inc_le i).1
    have h2 := wv_mono h (tc D (row / tm D ^ k % tm D)) (D := D)
    have h3 := hde _ (Nat.mod_lt (row / tm D ^ k) hm)
    rw [Nat.succ_mul]
    show wv D W (tc D (row / tm D ^ k % tm D)) + SS D k (inc W (tc D (row / tm D ^ k % tm D))) row ≤ k * de + de
    omega
theorem sel_pl {c : Nat → Option Nat} {a x v : Nat} (h : sel c a = some (x, v)) : ∀ t, (∀ j, a ≤ j → j < a + t → ∀ u, c j = some u → u ≤ v) → sel c (a + t) = some (x, v)
  | 0, _ => h
  | t + 1, hh => by
    have ih := sel_pl h t fun j j1 j2 => hh j j1 (by omega)
    cases q : c (a + t) with
    | none => rw [← Nat.add_assoc, sel_n q]; exact ih
    | some u =>
      have := hh (a + t) (by omega) (by omega) u q
      rw [← Nat.add_assoc, sel_s q, ih]
      simp only []
      rw [if_neg (by omega)]
/-- figure d of n -/
abbrev fg3 (D : Dr) (n row d : Nat) : Nat := row / tm D ^ (n - 1 - d) % tm D
def cdI (D : Dr) (c : Nat) : Int32 := nI (10 * (tc D c).1 + (tc D c).2)
abbrev FR (D : Dr) (n row : Nat) : Option Nat := some (SS D n (W0 D) row)
def BsC (D : Dr) (n : Nat) (o : Option (Nat × Nat)) (M : Mem) : Prop := match o with
  | none => M.1 28 6 = -9
  | some (r, v) => M.1 28 6 = nI v ∧ ∀ d, d < n → M.1 35 d = cdI D (fg3 D n r d)
def SrC (D : Dr) (de : Nat) (W : Nat → Nat) (M : Mem) : Prop := M.1 28 4 = nI (tm D) ∧ M.1 28 5 = nI de ∧ TwA 33 (twos D) M ∧ ∀ i, i < dn D → GlAt M (63 + i) (gV D W i)
def PS (a k : Nat) : Prop := (a = 28 ∧ k = 6) ∨ a = 34 ∨ a = 35 ∨ (63 ≤ a ∧ a ≤ 70 ∧ k = 4)
theorem SrC.gl {de : Nat} {W W' : Nat → Nat} {M1 : Mem} (h : SrC D de W M) (h8 : dn D ≤ 8) (e : Eqv PS M M1) (hw : ∀ i, i < dn D → M1.1 (63 + i) 4 = nI (W' i)) : SrC D de W' M1 := by
  obtain ⟨a, b, c, d⟩ := h
  refine ⟨by rw [e.i (by unfold PS; omega)]; exact a, by rw [e.i (by unfold PS; omega)]; exact b, fun t p ht => by rw [e.i (by unfold PS; omega)]; exact c t p ht, fun i hi => ?_⟩
  obtain ⟨x0, x1, x2, x3, x4⟩ := d i hi
  refine ⟨by rw [e.i (by unfold PS; omega)]; exact x0, by rw [e.i (by unfold PS; omega)]; exact x1, by rw [e.i (by unfold PS; omega)]; exact x2, by rw [e.i (by unfold PS; omega)]; exact x3, hw i hi⟩
theorem s36_loop {d : Nat} (hd : 5 ≤ d) (M0 : Mem) : ∀ (k i : Nat) (M : Mem), i + k = 3 → Eqv (fun a _ => a = 35) M0 M → (∀ j, j < i → M.1 35 j = M0.1 34 j) →
    (∀ M', Eqv (fun a _ => a = 35) M0 M' → (∀ j, j < 3 → M'.1 35 j = M0.1 34 j) → Q none M') → P_X0_search_36 G d (nI i) M Q := by
  intro k
  induction k with
  | zero =>
    intro i M hi e hj h
    have : i = 3 := by omega
    subst this
    exact v_X0_search_36 hd (br_f (nI_nlt (b := 3) (Nat.le_refl _) (by omega)) (h M e hj))
  | succ k ih =>
    intro i M hi e hj h
    refine v_X0_search_36 hd (br_t (nI_lt (b := 3) (by omega) (by omega)) ⟨vin (by omega), vin (by omega), ?_⟩)
    rw [nI_1 i, ncl (by omega)]
    rintro _ rfl
    refine ih (i + 1) _ (by omega) (e.upI rfl) (fun j hj2 => ?_) h
    by_cases c : j = i
    · rw [c, upI_s, e.i (by omega)]
    · rw [upI_n _ _ (by omega)]; exact hj j (by omega)
theorem pk10 {a b : Nat} (ha : a < 8) (hb : b < 8) : nI (10 * a + b) / 10 = nI a ∧ nI (10 * a + b) - nI (10 * a + b) / 10 * 10 = nI b := by
  rw [show (10 : Int32) = nI 10 from rfl, pk_rem (by omega) (by omega) (by omega), pk_div (by omega) (by omega) (by omega), show (10 * a + b) / 10 = a by omega, show (10 * a + b) % 10 = b by omega]
  exact ⟨rfl, rfl⟩
/-- a row whose figures begin so -/
theorem fig_at {m k q c row : Nat} (hc : c < m) (h1 : q * m ^ (k + 1) + c * m ^ k ≤ row) (h2 : row < q * m ^ (k + 1) + c * m ^ k + m ^ k) : row / m ^ k % m = c := by
  have e : q * m ^ (k + 1) + c * m ^ k = (q * m + c) * m ^ k := by rw [Nat.pow_succ, Nat.add_mul, Nat.mul_assoc q m, Nat.mul_comm m (m ^ k)]
  rw [e] at h1 h2
  rw [Nat.div_eq_of_lt_le h1 (by rw [Nat.succ_mul]; exact h2), Nat.add_comm, Nat.add_mul_mod_self_right, Nat.mod_eq_of_lt hc]
theorem srch_ok (hk : DOk D) {n de : Nat} (hn : n ≤ 3) (hm : n = 0 ∨ 0 < tm D) (hde : de ≤ 24) (hdw : ∀ c, c < tm D → wv D (W0 D) (tc D c) ≤ de) :
    ∀ (k d dd sum q : Nat) (W : Nat → Nat) (M : Mem) (Q : Option Value → Mem → Prop), dd + k = n → 5 + k ≤ d → SrC D de W M → (∀ i, W0 D i ≤ W i ∧ W i ≤ 40 + dd) → sum ≤ 24 * dd →
    (∀ row, q * tm D ^ k ≤ row → row < q * tm D ^ k + tm D ^ k → SS D n (W0 D) row = sum + SS D k W row ∧ ∀ t, t < dd → M.1 34 t = cdI D (fg3 D n row t)) → BsC D n (sel (FR D n) (q * tm D ^ k)) M →
    (∀ M', Eqv PS M M' → (∀ i, i < dn D → M'.1 (63 + i) 4 = nI (W i)) → (∀ t, t < dd → M'.1 34 t = M.1 34 t) → BsC D n (sel (FR D n) (q * tm D ^ k + tm D ^ k)) M' → Q none M') → C_X0_search G d (nI dd) (nI n) (nI sum) M Q := by
  have h8 := hk.1
  have hT : tm D ≤ 28 := twos_len h8
  intro k
  induction k with
  | zero =>
    intro d dd sum q W M Q hdd hd hS hW hs hF hB h
    have : dd = n := by omega
    subst this
    obtain ⟨s1, s2, s3, s4⟩ := id hS
    obtain ⟨f1, f2⟩ := hF (q * tm D ^ 0) (Nat.le_refl _) (by rw [Nat.pow_zero]; omega)
    have f3 : SS D dd (W0 D) (q * tm D ^ 0) = sum := f1
    have hr := sel_s (c := FR D dd) (j := q * tm D ^ 0) rfl
    rw [f3] at hr
    rw [show tm D ^ 0 = 1 from rfl] at h hB hr f2 f3
    refine v_X0_search (by omega) ?_
    rw [s2, pk_sub (Nat.le_refl _), pk_mul, nI_add, Nat.sub_self, Nat.zero_mul, Nat.add_zero]
    have leaf : sel (FR D dd) (q * 1 + 1) = some (q * 1, sum) → (∀ M3 : Mem, M3 = upI M 28 6 (nI sum) → P_X0_search_36 G d 0 M3 Q) := fun hsel => by
      rintro M3 e3
      have v3 : Eqv PS M M3 := by rw [e3]; exact Eqv.rf.upI (Or.inl ⟨rfl, rfl⟩)
      refine s36_loop (by omega) M3 3 0 M3 (by omega) Eqv.rf (fun j hj => absurd hj (Nat.not_lt_zero j)) fun M4 e4 c4 => ?_
      have v4 : Eqv PS M M4 := v3.tr (e4.mono fun a k q => Or.inr (Or.inr (Or.inl q)))
      refine h M4 v4 (fun i hi => by rw [e4.i (by omega), e3, upI_n _ _ (by omega)]; exact (s4 i hi).2.2.2.2) (fun t ht => by rw [e4.i (by omega), e3, upI_n _ _ (by omega)]) ?_
      rw [hsel]
      refine ⟨by rw [e4.i (by omega), e3, upI_s], fun t ht => ?_⟩
      rw [c4 t (by omega), e3, upI_n _ _ (by omega), f2 t ht]
    cases hb : sel (FR D dd) (q * 1) with
    | none =>
      rw [hb] at hB hr
      have hB' : M.1 28 6 = -9 := hB
      rw [hB']
      refine br_t (by rw [Int32.lt_iff_toInt_lt, nI_toInt (by omega), show (-9 : Int32).toInt = -9 by decide]; omega) ?_
      exact br_f (nI_nlt (Nat.le_refl _) (by omega)) (leaf hr)
    | some y =>
      obtain ⟨r, v⟩ := y
      have hv : v < 1000 := (sel_lt (B := 1000) (c := FR D dd) (fun j u hu => by
        cases hu
        have h5 : dd = 0 ∨ 0 < tm D := hm
        rcases h5 with z | z
        · subst z; show 0 < 1000; omega
        · have := SS_le z hdw j dd (W0 D) fun i => Nat.le_refl _
          have : dd * de ≤ 3 * 24 := Nat.mul_le_mul hn hde
          omega) _ _ _ hb).2
      rw [hb] at hB hr
      simp only [] at hr
      rw [hB.1, nI_ltI (by omega) (by omega)]
      refine ⟨fun c => br_f (nI_nlt (Nat.le_refl _) (by omega)) (leaf (by rw [hr, if_pos c])), fun c => ?_⟩
      refine h M Eqv.rf (fun i hi => (s4 i hi).2.2.2.2) (fun t ht => rfl) ?_
      rw [hr, if_neg c]
      exact hB
  | succ k ih =>
    intro d dd sum q W M Q hdd hd hS hW hs hF hB h
    have hm : 0 < tm D := by rcases hm with z | z <;> omega
    obtain ⟨d, rfl⟩ : ∃ d', d = d' + 1 := ⟨d - 1, by omega⟩
    obtain ⟨s1, s2, s3, s4⟩ := id hS
    have hkd : (k + 1) * de ≤ 3 * 24 := Nat.mul_le_mul (by omega) hde
    have hE : tm D ^ (k + 1) = tm D * tm D ^ k := by rw [Nat.pow_succ, Nat.mul_comm]
    have hP : 0 < tm D ^ k := Nat.pow_pos hm
    refine v_X0_search (by omega) ?_
    rw [s2, pk_sub (by omega), pk_mul, nI_add, show n - dd = k + 1 by omega]
    have loop : ∀ (t c : Nat) (M1 : Mem), c + t = tm D → Eqv PS M M1 → (∀ i, i < dn D → M1.1 (63 + i) 4 = nI (W i)) → (∀ t, t < dd → M1.1 34 t = M.1 34 t) → BsC D n (sel (FR D n) (q * tm D ^ (k + 1) + c * tm D ^ k)) M1 → P_X0_search_66 G (d + 1) (nI dd) (nI n) (nI sum) (nI c) M1 Q := by
      intro t
      induction t with
      | zero =>
        intro c M1 hc e1 g1 w1 b1
        have : c = tm D := by omega
        subst this
        refine v_X0_search_66 (by omega) ?_
        rw [e1.i (by unfold PS; omega), s1]
        rw [← hE] at b1
        exact br_f (nI_nlt (Nat.le_refl _) (by omega)) (h M1 e1 g1 w1 b1)
      | succ t iht =>
        intro c M1 hc e1 g1 w1 b1
        have hc2 : c < tm D := by omega
        obtain ⟨p1, p2, p3⟩ := tc_ok hc2
        have hS1 := hS.gl h8 e1 g1
        obtain ⟨z1, z2, z3, z4⟩ := id hS1
        obtain ⟨x1, x2⟩ := pk10 (a := (tc D c).1) (b := (tc D c).2) (by omega) (by omega)
        have hw8 : wv D W (tc D c) ≤ 24 := Nat.le_trans (wv_mono (fun i => (hW i).1) _) (Nat.le_trans (hdw c hc2) hde)
        have hw1 := hW (tc D c).1
        have hw2 := hW (tc D c).2
        refine v_X0_search_66 (by omega) ?_
        rw [z1, ncl (n := c) (by omega), z3 c (tc D c) (tc_get hc2), x2, x1, ncl (n := (tc D c).1) (by omega), ncl (n := (tc D c).2) (by omega), ncl (n := dd) (by omega), nI_1 c, nI_1 dd]
        refine br_t (nI_lt hc2 (by omega)) ⟨vin (by omega), vin (by omega), vin (by omega), vin (by omega), ?_⟩
        refine goodWith_ok (kdWn (by omega)) (kdWn (by omega)) (z4 _ (by omega)) (gV_ok hk (by omega) (by omega)) (z4 _ p2) (gV_ok hk p2 (by omega)) (RI.mk ?_)
        rw [wv_gw hc2, oI_some, z3 c (tc D c) (tc_get hc2), nI_add]
        refine ⟨vin (by omega), vin (by omega), ?_⟩
        rintro M2 e2 M3 e3 M4 e4
        have v2 : Eqv PS M1 M2 := by rw [e2]; exact Eqv.rf.upI (by unfold PS; omega)
        have v3 : Eqv PS M1 M3 := by rw [e3]; exact v2.upI (by unfold PS; omega)
        have v4 : Eqv PS M1 M4 := by rw [e4]; exact v3.upI (by unfold PS; omega)
        have u2 : M2.1 (63 + (tc D c).1) 4 = nI (W (tc D c).1) := by rw [e2, upI_n _ _ (by omega)]; exact g1 _ (by omega)
        rw [u2, nI_1] at e3
        have u3 : M3.1 (63 + (tc D c).2) 4 = nI (W (tc D c).2) := by rw [e3, upI_n _ _ (by omega), e2, upI_n _ _ (by omega)]; exact g1 _ p2
        rw [u3, nI_1] at e4
        have g4 : ∀ i, i < dn D → M4.1 (63 + i) 4 = nI (inc W (tc D c) i) := fun i hi => by
          by_cases a2 : i = (tc D c).2
          · rw [inc_y (Or.inr a2), a2, e4, upI_s]
          · rw [e4, upI_n _ _ (by omega), e3]
            by_cases a1 : i = (tc D c).1
            · rw [inc_y (Or.inl a1), a1, upI_s]
            · rw [inc_n (by omega), upI_n _ _ (by omega), e2, upI_n _ _ (by omega)]; exact g1 i hi
        have hq : q * tm D ^ (k + 1) + c * tm D ^ k = (q * tm D + c) * tm D ^ k := by rw [hE, Nat.add_mul, Nat.mul_assoc]
        have hle : c * tm D ^ k + tm D ^ k ≤ tm D ^ (k + 1) := by
          rw [hE, ← Nat.succ_mul]
          exact Nat.mul_le_mul_right _ hc2
        have b4 : BsC D n (sel (FR D n) ((q * tm D + c) * tm D ^ k)) M4 := by
          rw [← hq]
          cases hb : sel (FR D n) (q * tm D ^ (k + 1) + c * tm D ^ k) with
          | none =>
            rw [hb] at b1
            show M4.1 28 6 = -9
            rw [e4, upI_n _ _ (by omega), e3, upI_n _ _ (by omega), e2, upI_n _ _ (by omega)]; exact b1
          | some y =>
            rw [hb] at b1
            refine ⟨by rw [e4, upI_n _ _ (by omega), e3, upI_n _ _ (by omega), e2, upI_n _ _ (by omega)]; exact b1.1, fun t ht => by rw [e4, upI_n _ _ (by omega), e3, upI_n _ _ (by omega), e2, upI_n _ _ (by omega)]; exact b1.2 t ht⟩
        refine ih d (dd + 1) (sum + wv D W (tc D c)) (q * tm D + c) (inc W (tc D c)) M4 _ (by omega) (by omega) (hS1.gl h8 v4 g4) (fun i => ?_) (by omega) (fun row h1 h2 => ?_) b4 fun M5 e5 g5 w5 b5 => RV.mk ?_
        · have := inc_le (W := W) (p := tc D c) i
          have := hW i
          omega
        · rw [← hq] at h1 h2
          have hfig := fig_at hc2 h1 h2
          obtain ⟨f1, f2⟩ := hF row (by omega) (by omega)
          refine ⟨?_, fun t ht => ?_⟩
          · rw [f1]
            show sum + (wv D W (tc D (row / tm D ^ k % tm D)) + SS D k (inc W (tc D (row / tm D ^ k % tm D))) row) = _
            rw [hfig]
            omega
          · by_cases ct : t = dd
            · subst ct
              show M4.1 34 t = cdI D (row / tm D ^ (n - 1 - t) % tm D)
              rw [show n - 1 - t = k by omega, hfig, e4, upI_n _ _ (by omega), e3, upI_n _ _ (by omega), e2, upI_s]
              rfl
            · rw [e4, upI_n _ _ (by omega), e3, upI_n _ _ (by omega), e2, upI_n _ _ (by omega), w1 t (by omega)]
              exact f2 t (by omega)
        · rw [g5 _ (by omega), inc_y (Or.inl rfl), nI_pred]
          rintro M6 e6
          rw [e6, upI_n _ _ (by omega), g5 _ p2, inc_y (Or.inr rfl), nI_pred]
          rintro M7 e7
          rw [← e6] at e7
          have v6 : Eqv PS M1 M6 := by rw [e6]; exact (v4.tr e5).upI (by unfold PS; omega)
          have v7 : Eqv PS M1 M7 := by rw [e7]; exact v6.upI (by unfold PS; omega)
          refine iht (c + 1) M7 (by omega) (e1.tr v7) (fun i hi => ?_) (fun t ht => ?_) ?_
          · by_cases a2 : i = (tc D c).2
            · rw [a2, e7, upI_s]
            · rw [e7, upI_n _ _ (by omega), e6]
              by_cases a1 : i = (tc D c).1
              · rw [a1, upI_s]
              · rw [upI_n _ _ (by omega), g5 i hi, inc_n (by omega)]
          · rw [e7, upI_n _ _ (by omega), e6, upI_n _ _ (by omega), w5 t (by omega), e4, upI_n _ _ (by omega), e3, upI_n _ _ (by omega), e2, upI_n _ _ (by omega)]
            exact w1 t ht
          · rw [show q * tm D ^ (k + 1) + (c + 1) * tm D ^ k = (q * tm D + c) * tm D ^ k + tm D ^ k by rw [← hq, Nat.succ_mul]; omega]
            cases hb : sel (FR D n) ((q * tm D + c) * tm D ^ k + tm D ^ k) with
            | none =>
              rw [hb] at b5
              show M7.1 28 6 = -9
              rw [e7, upI_n _ _ (by omega), e6, upI_n _ _ (by omega)]; exact b5
            | some y =>
              rw [hb] at b5
              refine ⟨by rw [e7, upI_n _ _ (by omega), e6, upI_n _ _ (by omega)]; exact b5.1, fun t ht => by rw [e7, upI_n _ _ (by omega), e6, upI_n _ _ (by omega)]; exact b5.2 t ht⟩
    have go : P_X0_search_66 G (d + 1) (nI dd) (nI n) (nI sum) 0 M Q := loop (tm D) 0 M (by omega) Eqv.rf (fun i hi => (s4 i hi).2.2.2.2) (fun t ht => rfl) (by rw [Nat.zero_mul, Nat.add_zero]; exact hB)
    have inn : ((nI dd < nI n → ((nI dd < 3 → P_X0_search_66 G (d + 1) (nI dd) (nI n) (nI sum) 0 M Q) ∧ (¬ nI dd < 3 → (∀ M5 : Mem, M5 = upI M 28 6 (nI sum) → P_X0_search_36 G (d + 1) 0 M5 Q)))) ∧ (¬ nI dd < nI n → (∀ M3 : Mem, M3 = upI M 28 6 (nI sum) → P_X0_search_36 G (d + 1) 0 M3 Q))) :=
      br_t (nI_lt (by omega) (by omega)) (br_t (nI_lt (b := 3) (by omega) (by omega)) go)
    cases hb : sel (FR D n) (q * tm D ^ (k + 1)) with
    | none =>
      rw [hb] at hB
      have hB' : M.1 28 6 = -9 := hB
      rw [hB']
      exact br_t (by rw [Int32.lt_iff_toInt_lt, nI_toInt (by omega), show (-9 : Int32).toInt = -9 by decide]; omega) inn
    | some y =>
      obtain ⟨r, v⟩ := y
      have hv : v < 1000 := (sel_lt (B := 1000) (c := FR D n) (fun j u hu => by
        cases hu
        have := SS_le hm hdw j n (W0 D) fun i => Nat.le_refl _
        have : n * de ≤ 3 * 24 := Nat.mul_le_mul hn hde
        omega) _ _ _ hb).2
      rw [hb] at hB
      rw [hB.1, nI_ltI (by omega) (by omega)]
      refine ⟨fun _ => inn, fun c => h M Eqv.rf (fun i hi => (s4 i hi).2.2.2.2) (fun t ht => rfl) ?_⟩
      rw [sel_pl hb (tm D ^ (k + 1)) (fun j j1 j2 u hu => ?_)]
      · exact hB
      · cases hu
        have a1 := (hF j j1 j2).1
        have a2 := SS_le hm hdw j (k + 1) W fun i => (hW i).1
        show SS D n (W0 D) j ≤ v
        omega
end DAY
