/-! both weigh all sets alike -/
def wD (D : Dr) (i j : Nat) : Option Nat := if i < dn D ∧ j < dn D then gw (glD D i) (glD D j) else none
def w1 (D : Dr) (i j : Nat) : Option Nat := (wD D i j).map fun _ => 1
abbrev best (D : Dr) (m : Nat) : Nat := bB (wD D) m
abbrev most (D : Dr) (m : Nat) : Nat := bB (w1 D) m
theorem wD_comm (D : Dr) (i j : Nat) : wD D i j = wD D j i := by
  unfold wD
  rw [gw_comm]
  by_cases h : i < dn D ∧ j < dn D
  · rw [if_pos h, if_pos h.symm]
  · rw [if_neg h, if_neg (fun q => h q.symm)]
theorem w1_comm (D : Dr) (i j : Nat) : w1 D i j = w1 D j i := by unfold w1; rw [wD_comm]
theorem wD_lt {D : Dr} (hk : DOk D) {i j v : Nat} (h : wD D i j = some v) : v < 25 := by
  unfold wD at h
  split at h
  · rename_i c; exact gw_lt (glD_ok hk c.1) (glD_ok hk c.2) h
  · cases h
theorem wD_in {D : Dr} {i j : Nat} (hi : i < dn D) (hj : j < dn D) : wD D i j = gw (glD D i) (glD D j) := if_pos ⟨hi, hj⟩
theorem best_le {D : Dr} (hk : DOk D) (m : Nat) : best D m ≤ 192 := bB_le (b := 24) (fun i j v h => by have := wD_lt hk h; omega) m
theorem most_le (D : Dr) (m : Nat) : most D m ≤ 8 := bB_le (b := 1) (fun i j v h => by
  unfold w1 at h
  cases q : wD D i j with
  | none => rw [q] at h; cases h
  | some u => rw [q] at h; cases h; exact Nat.le_refl _) m
theorem cand_f {w : Nat → Nat → Option Nat} {p : Nat → Bool} {b : Nat → Nat} {i j : Nat} (h : p j = false) : cand w p b i j = none := by unfold cand; rw [h]; rfl
theorem cand_n {w : Nat → Nat → Option Nat} {p : Nat → Bool} {b : Nat → Nat} {i j : Nat} (h : w i j = none) : cand w p b i j = none := by unfold cand; rw [h]; split <;> rfl
theorem cand_s {w : Nat → Nat → Option Nat} {p : Nat → Bool} {b : Nat → Nat} {i j v : Nat} (h : p j = true) (hv : w i j = some v) : cand w p b i j = some (v + b j) := by unfold cand; rw [if_pos h, hv]; rfl
theorem w1_n {D : Dr} {i j : Nat} (h : wD D i j = none) : w1 D i j = none := by unfold w1; rw [h]; rfl
theorem w1_s {D : Dr} {i j v : Nat} (h : wD D i j = some v) : w1 D i j = some 1 := by unfold w1; rw [h]; rfl
def TbC (D : Dr) (K : Nat) (M : Mem) : Prop := ∀ m, m < K → M.1 25 m = nI (best D m) ∧ M.1 26 m = nI (most D m)
def WtC (D : Dr) (M : Mem) : Prop := ∀ i j, i < dn D → j < i → M.1 24 (8 * i + j) = oI (wD D i j)
def TbM (D : Dr) (K : Nat) (M : Mem) : Prop := ∀ m, m < K → M.1 91 m = nI (best D m) ∧ M.1 92 m = nI (most D m)
theorem p2_256 {i : Nat} (h : i < 8) : 2 ^ i ≤ 128 := Nat.le_trans (Nat.pow_le_pow_right (by decide) (show i ≤ 7 by omega)) (by decide : 2 ^ 7 ≤ 128)
theorem p2_257 {i : Nat} (h : i ≤ 8) : 2 ^ i ≤ 256 := Nat.le_trans (Nat.pow_le_pow_right (by decide) (show i ≤ 8 by omega)) (by decide : 2 ^ 8 ≤ 256)
theorem p2_pos (i : Nat) : 0 < 2 ^ i := Nat.two_pow_pos i
section WGH
variable {G : Glob} {M : Mem} {Q : Option Value → Mem → Prop} {n : Nat} {S : St} {D : Dr}
theorem wwith_loop (hk : DOk D) {i oth : Nat} (hi : i < dn D) (ho : oth < 2 ^ i) (M0 : Mem) (hW : WtC D M0) (hT : TbC D (2 ^ i + oth) M0) : ∀ (k j : Nat) (M : Mem), j + k = i → Eqv (fun a t => (a = 25 ∨ a = 26) ∧ t = 2 ^ i + oth) M0 M →
    M.1 25 (2 ^ i + oth) = nI (fm (cand (wD D) (bs oth) (fun j => best D (oth ^^^ 2 ^ j)) i) (best D oth) j) → M.1 26 (2 ^ i + oth) = nI (fm (cand (w1 D) (bs oth) (fun j => most D (oth ^^^ 2 ^ j)) i) (most D oth) j) →
    (∀ M', Eqv (fun a t => (a = 25 ∨ a = 26) ∧ t = 2 ^ i + oth) M0 M' → M'.1 25 (2 ^ i + oth) = nI (fm (cand (wD D) (bs oth) (fun j => best D (oth ^^^ 2 ^ j)) i) (best D oth) i) → M'.1 26 (2 ^ i + oth) = nI (fm (cand (w1 D) (bs oth) (fun j => most D (oth ^^^ 2 ^ j)) i) (most D oth) i) → Q none M') → P_X6_weighWith_33 G (nI i) (nI oth) (nI (2 ^ i + oth)) (nI j) M Q := by
  have h8 := hk.1
  have hp := p2_256 (i := i) (by omega)
  intro k
  induction k with
  | zero =>
    intro j M hj e h1 h2 hQ
    have : j = i := by omega
    subst this
    exact v_X6_weighWith_33 (br_f (nI_nlt (Nat.le_refl _) (by omega)) (hQ M e h1 h2))
  | succ k ih =>
    intro j M hj e h1 h2 hQ
    have hji : j < i := by omega
    refine v_X6_weighWith_33 (br_t (nI_lt hji (by omega)) ?_)
    rw [show (8 : Int32) = nI 8 from rfl, pk_mul, nI_add, ncl (by omega), e.i (by omega), hW i j hi hji, tb_and oth (by omega) j (by omega), tb_xor oth (by omega) j (by omega), nI_1, ncl (n := 2 ^ i + oth) (by omega)]
    refine ⟨vin (by omega), ?_⟩
    rintro _ rfl
    have skip : fm (cand (wD D) (bs oth) (fun j => best D (oth ^^^ 2 ^ j)) i) (best D oth) (j + 1) = fm (cand (wD D) (bs oth) (fun j => best D (oth ^^^ 2 ^ j)) i) (best D oth) j → fm (cand (w1 D) (bs oth) (fun j => most D (oth ^^^ 2 ^ j)) i) (most D oth) (j + 1) = fm (cand (w1 D) (bs oth) (fun j => most D (oth ^^^ 2 ^ j)) i) (most D oth) j → P_X6_weighWith_33 G (nI i) (nI oth) (nI (2 ^ i + oth)) (nI (j + 1)) M Q := fun q1 q2 =>
      ih (j + 1) M (by omega) e (by rw [q1]; exact h1) (by rw [q2]; exact h2) hQ
    refine ⟨fun c => skip (fm_n (cand_f c)) (fm_n (cand_f c)), fun c => ?_⟩
    have c' : oth.testBit j = true := by
      cases q : oth.testBit j
      · exact absurd q c
      · rfl
    rw [oI_n9' (fun v hv => wD_lt hk hv)]
    refine ⟨fun d => skip (fm_n (cand_n d)) (fm_n (cand_n (w1_n d))), fun d => ?_⟩
    obtain ⟨v, hv⟩ := Option.ne_none_iff_exists'.mp d
    have hrest : oth ^^^ 2 ^ j < 2 ^ i := Nat.xor_lt_two_pow ho (Nat.pow_lt_pow_right (by decide) hji)
    obtain ⟨t1, t2⟩ := hT (oth ^^^ 2 ^ j) (by omega)
    rintro _ rfl
    have bnd : ∀ t, fm (cand (wD D) (bs oth) (fun j => best D (oth ^^^ 2 ^ j)) i) (best D oth) t < 2 ^ 20 := fun t => by
      rcases fm_or (cand (wD D) (bs oth) (fun j => best D (oth ^^^ 2 ^ j)) i) (best D oth) t with q | ⟨j', q1, q2⟩
      · rw [q]; have := best_le hk oth; omega
      · generalize fm (cand (wD D) (bs oth) (fun j => best D (oth ^^^ 2 ^ j)) i) (best D oth) t = F at q2 ⊢
        unfold cand at q2
        split at q2
        · cases h : wD D i j' with
          | none => rw [h] at q2; cases q2
          | some u =>
            rw [h] at q2
            cases q2
            have := wD_lt hk h
            have := best_le hk (oth ^^^ 2 ^ j')
            show u + best D (oth ^^^ 2 ^ j') < 2 ^ 20
            omega
        · cases q2
    have bnd1 : ∀ t, fm (cand (w1 D) (bs oth) (fun j => most D (oth ^^^ 2 ^ j)) i) (most D oth) t < 2 ^ 20 := fun t => by
      rcases fm_or (cand (w1 D) (bs oth) (fun j => most D (oth ^^^ 2 ^ j)) i) (most D oth) t with q | ⟨j', q1, q2⟩
      · rw [q]; have := most_le D oth; omega
      · generalize fm (cand (w1 D) (bs oth) (fun j => most D (oth ^^^ 2 ^ j)) i) (most D oth) t = F at q2 ⊢
        unfold cand at q2
        split at q2
        · cases h : wD D i j' with
          | none => rw [w1_n h] at q2; cases q2
          | some u =>
            rw [w1_s h] at q2
            cases q2
            have := most_le D (oth ^^^ 2 ^ j')
            show 1 + most D (oth ^^^ 2 ^ j') < 2 ^ 20
            omega
        · cases q2
    have ws : cand (wD D) (bs oth) (fun j => best D (oth ^^^ 2 ^ j)) i j = some (v + best D (oth ^^^ 2 ^ j)) := cand_s c' hv
    have ws1 : cand (w1 D) (bs oth) (fun j => most D (oth ^^^ 2 ^ j)) i j = some (1 + most D (oth ^^^ 2 ^ j)) := cand_s c' (w1_s hv)
    have hv25 := wD_lt hk hv
    have hb := best_le hk (oth ^^^ 2 ^ j)
    have hm := most_le D (oth ^^^ 2 ^ j)
    refine ⟨vin (by omega), vin (by omega), vin (by omega), ?_⟩
    rintro M1 e1
    rw [ncl (by omega), hv, oI_some, h1, e.i (by omega), t1, nI_add, Nat.add_comm _ v, nmx (by have := bnd j; omega) (by omega), ← fm_s ws] at e1
    have e2 : Eqv (fun a t => (a = 25 ∨ a = 26) ∧ t = 2 ^ i + oth) M0 M1 := by rw [e1]; exact e.upI (by omega)
    refine ⟨vin (by omega), vin (by omega), vin (by omega), ?_⟩
    rintro M2 e3
    rw [ncl (by omega), show M1.1 26 (2 ^ i + oth) = M.1 26 (2 ^ i + oth) by rw [e1, upI_n _ _ (by omega)], h2, e2.i (by omega), t2, show (1 : Int32) = nI 1 from rfl, nI_add, Nat.add_comm _ 1, nmx (by have := bnd1 j; omega) (by omega), ← fm_s ws1] at e3
    refine ih (j + 1) M2 (by omega) (by rw [e3]; exact e2.upI (by omega)) (by rw [e3, upI_n _ _ (by omega), e1, upI_s]) (by rw [e3, upI_s]) hQ
theorem wwith_ok (hk : DOk D) {i oth : Nat} (hi : i < dn D) (ho : oth < 2 ^ i) (hW : WtC D M) (hT : TbC D (2 ^ i + oth) M) (h : ∀ M', Eqv (fun a t => (a = 25 ∨ a = 26) ∧ t = 2 ^ i + oth) M M' → TbC D (2 ^ i + oth + 1) M' → Q none M') : C_X6_weighWith G (nI i) (nI oth) M Q := by
  have h8 := hk.1
  have hp := p2_256 (i := i) (by omega)
  obtain ⟨s1, s2, s3⟩ := tb_set i (by omega) oth ho
  have pp := p2_pos i
  obtain ⟨t1, t2⟩ := hT oth (by omega)
  refine v_X6_weighWith ?_
  rintro _ rfl
  rw [tb_or oth (by omega) i (by omega), s1, ncl (by omega), ncl (by omega), t1]
  refine ⟨vin (by omega), vin (by omega), ?_⟩
  rintro _ rfl
  rw [upI_n _ _ (by omega), t2]
  refine ⟨vin (by omega), vin (by omega), ?_⟩
  rintro M1 e1
  have v1 : Eqv (fun a t => (a = 25 ∨ a = 26) ∧ t = 2 ^ i + oth) M M1 := by rw [e1]; exact (Eqv.rf.upI (by omega)).upI (by omega)
  have hW1 : WtC D M1 := fun a b ha hb => by rw [v1.i (by omega)]; exact hW a b ha hb
  have hT1 : TbC D (2 ^ i + oth) M1 := fun m hm => by rw [v1.i (by omega), v1.i (by omega)]; exact hT m hm
  refine wwith_loop hk hi ho M1 hW1 hT1 i 0 M1 (by omega) Eqv.rf (by rw [e1, upI_n _ _ (by omega), upI_s]; rfl) (by rw [e1, upI_s]; rfl) fun M2 e2 b1 b2 => ?_
  have hm : 2 ^ i + oth < 256 := by omega
  have any1 := bB_any (w := wD D) (N := i) (wD_comm D) hm s2 (fun j hj => by rw [s3]; exact tb_hi ho hj)
  have any2 := bB_any (w := w1 D) (N := i) (w1_comm D) hm s2 (fun j hj => by rw [s3]; exact tb_hi ho hj)
  rw [s3] at any1 any2
  rw [← any1] at b1
  rw [← any2] at b2
  refine h M2 (v1.tr e2) fun m hm => ?_
  by_cases c : m = 2 ^ i + oth
  · rw [c]; exact ⟨b1, b2⟩
  · rw [e2.i (by omega), e2.i (by omega)]; exact hT1 m (by omega)
def PB (a _k : Nat) : Prop := a = 25 ∨ a = 26
theorem w81_loop (hk : DOk D) {i : Nat} (hi : i < dn D) (M0 : Mem) (hW : WtC D M0) : ∀ (k oth : Nat) (M : Mem), oth + k = 2 ^ i → Eqv PB M0 M → TbC D (2 ^ i + oth) M →
    (∀ M', Eqv PB M0 M' → TbC D (2 ^ (i + 1)) M' → P_X6_weigh_71 G (nI (i + 1)) M' Q) → P_X6_weigh_81 G (nI i) (nI oth) M Q := by
  have h8 := hk.1
  have hp := p2_256 (i := i) (by omega)
  intro k
  induction k with
  | zero =>
    intro oth M hj e hT hQ
    have : oth = 2 ^ i := by omega
    subst this
    refine v_X6_weigh_81 ?_
    rw [sh1_tab i (by omega), nI_1 i]
    refine br_f (nI_nlt (Nat.le_refl _) (by omega)) (hQ M e ?_)
    rw [show 2 ^ (i + 1) = 2 ^ i + 2 ^ i by rw [Nat.pow_succ]; omega]
    exact hT
  | succ k ih =>
    intro oth M hj e hT hQ
    refine v_X6_weigh_81 ?_
    rw [sh1_tab i (by omega), nI_1 oth]
    refine br_t (nI_lt (by omega) (by omega)) (wwith_ok hk hi (by omega) (fun a b ha hb => by rw [e.i (by unfold PB; omega)]; exact hW a b ha hb) hT fun M1 e1 hT1 => RV.mk ?_)
    exact ih (oth + 1) M1 (by omega) (e.tr (e1.mono (by unfold PB; omega))) (by rw [← Nat.add_assoc]; exact hT1) hQ
theorem w71_loop (hk : DOk D) (M0 : Mem) (hz : M0.1 12 2 = nI (dn D)) (hW : WtC D M0) : ∀ (k i : Nat) (M : Mem), i + k = dn D → Eqv PB M0 M → TbC D (2 ^ i) M →
    (∀ M', Eqv PB M0 M' → TbC D (2 ^ dn D) M' → Q none M') → P_X6_weigh_71 G (nI i) M Q := by
  have h8 := hk.1
  intro k
  induction k with
  | zero =>
    intro i M hj e hT hQ
    have : i = dn D := by omega
    subst this
    refine v_X6_weigh_71 ?_
    rw [e.i (by unfold PB; omega), hz]
    exact br_f (nI_nlt (Nat.le_refl _) (by omega)) (hQ M e hT)
  | succ k ih =>
    intro i M hj e hT hQ
    refine v_X6_weigh_71 ?_
    rw [e.i (by unfold PB; omega), hz]
    refine br_t (nI_lt (by omega) (by omega)) (w81_loop hk (by omega) M0 hW (2 ^ i) 0 M (by omega) e hT fun M1 e1 hT1 => ?_)
    exact ih (i + 1) M1 (by omega) e1 hT1 hQ
theorem w12_loop (hk : DOk D) {i : Nat} (hi : i < dn D) (M0 : Mem) (hC : DrC D M0) : ∀ (k j : Nat) (M : Mem), j + k = i → Eqv (fun a _ => a = 24) M0 M → (∀ a b, a < i → b < a → M.1 24 (8 * a + b) = oI (wD D a b)) → (∀ b, b < j → M.1 24 (8 * i + b) = oI (wD D i b)) →
    (∀ M', Eqv (fun a _ => a = 24) M0 M' → (∀ a b, a < i + 1 → b < a → M'.1 24 (8 * a + b) = oI (wD D a b)) → P_X6_weigh_2 G (nI (i + 1)) M' Q) → P_X6_weigh_12 G (nI i) (nI j) M Q := by
  have h8 := hk.1
  intro k
  induction k with
  | zero =>
    intro j M hj e h1 h2 hQ
    have : j = i := by omega
    subst this
    refine v_X6_weigh_12 ?_
    rw [nI_1]
    refine br_f (nI_nlt (Nat.le_refl _) (by omega)) (hQ M e fun a b ha hb => ?_)
    by_cases c : a = j
    · subst c; exact h2 b hb
    · exact h1 a b (by omega) hb
  | succ k ih =>
    intro j M hj e h1 h2 hQ
    have hC1 := hC.eqv (M' := M) h8 e (by omega)
    have hj2 : j < dn D := by omega
    refine v_X6_weigh_12 (br_t (nI_lt (by omega) (by omega)) ⟨vin (by omega), vin (by omega), ?_⟩)
    rw [ncl (by omega), ncl (by omega), show (8 : Int32) = nI 8 from rfl, pk_mul, nI_add, nI_1, ncl (by omega)]
    refine goodWith_ok (kdGl (by omega)) (kdGl (by omega)) (hC1.2.2.1 i hi).1 (glD_ok hk hi) (hC1.2.2.1 j hj2).1 (glD_ok hk hj2) (RI.mk ⟨vin (by omega), ?_⟩)
    rintro _ rfl
    rw [← wD_in hi hj2]
    refine ih (j + 1) _ (by omega) (e.upI rfl) (fun a b ha hb => by rw [upI_n _ _ (by omega)]; exact h1 a b ha hb) (fun b hb => ?_) hQ
    by_cases c : b = j
    · subst c; rw [upI_s]
    · rw [upI_n _ _ (by omega)]; exact h2 b (by omega)
theorem w2_loop (hk : DOk D) (M0 : Mem) (hC : DrC D M0) : ∀ (k i : Nat) (M : Mem), i + k = dn D → Eqv (fun a _ => a = 24) M0 M → (∀ a b, a < i → b < a → M.1 24 (8 * a + b) = oI (wD D a b)) →
    (∀ M', Eqv (fun a _ => 24 ≤ a ∧ a ≤ 26) M0 M' → WtC D M' → TbC D (2 ^ dn D) M' → Q none M') → P_X6_weigh_2 G (nI i) M Q := by
  have h8 := hk.1
  intro k
  induction k with
  | zero =>
    intro i M hj e h1 hQ
    have : i = dn D := by omega
    subst this
    refine v_X6_weigh_2 ?_
    rw [e.i (by omega), hC.1]
    refine br_f (nI_nlt (Nat.le_refl _) (by omega)) ⟨vin (n := 0) (by decide), ?_⟩
    rintro _ rfl
    refine ⟨vin (n := 0) (by decide), ?_⟩
    rintro M1 e1
    have v1 : Eqv (fun a _ => 25 ≤ a ∧ a ≤ 26) M M1 := by rw [e1]; exact (Eqv.rf.upI (by omega)).upI (by omega)
    have hW1 : WtC D M1 := fun a b ha hb => by rw [v1.i (by omega)]; exact h1 a b ha hb
    refine w71_loop hk M1 (by rw [v1.i (by omega), e.i (by omega)]; exact hC.1) hW1 (dn D) 0 M1 (by omega) Eqv.rf (fun m hm => ?_) fun M2 e2 hT2 => ?_
    · have : m = 0 := by omega
      subst this
      rw [e1, show best D 0 = 0 from bB_0, show most D 0 = 0 from bB_0]
      exact ⟨by rw [upI_n _ _ (by omega)]; exact upI_s _ _ _ _, upI_s _ _ _ _⟩
    · exact hQ M2 ((e.mono (by omega)).tr ((v1.mono (by omega)).tr (e2.mono (by unfold PB; omega)))) (fun a b ha hb => by rw [e2.i (by unfold PB; omega)]; exact hW1 a b ha hb) hT2
  | succ k ih =>
    intro i M hj e h1 hQ
    refine v_X6_weigh_2 ?_
    rw [e.i (by omega), hC.1]
    refine br_t (nI_lt (by omega) (by omega)) (w12_loop hk (by omega) M0 hC i 0 M (by omega) e h1 (fun b hb => absurd hb (Nat.not_lt_zero b)) fun M1 e1 h2 => ?_)
    exact ih (i + 1) M1 (by omega) e1 h2 hQ
theorem weigh_ok (hk : DOk D) (hC : DrC D M) (h : ∀ M', Eqv (fun a _ => 24 ≤ a ∧ a ≤ 26) M M' → WtC D M' → TbC D (2 ^ dn D) M' → Q none M') : C_X6_weigh G M Q :=
  v_X6_weigh (w2_loop hk M hC (dn D) 0 M (by omega) Eqv.rf (fun a b ha => absurd ha (Nat.not_lt_zero a)) h)
/-! the reference -/
theorem all_tab : ∀ n, n < 9 → ((1 : Int32) <<< (nI n &&& 31)) - 1 = nI (2 ^ n - 1) := by decide +kernel
theorem tb_dn {m j : Nat} (hm : m < 2 ^ n) (h : m.testBit j = true) : j < n := by
  by_cases c : j < n
  · exact c
  · rw [tb_hi hm (by omega)] at h; cases h
theorem fmb {c : Nat → Option Nat} {base b : Nat} (hb : base ≤ b) (hc : ∀ j v, c j = some v → v ≤ b) (t : Nat) : fm c base t ≤ b := by
  rcases fm_or c base t with q | ⟨j, q1, q2⟩
  · rw [q]; exact hb
  · exact hc j _ q2
theorem candb (hk : DOk D) {p : Nat → Bool} {f : Nat → Nat} {i j v : Nat} (h : cand (wD D) p (fun j => best D (f j)) i j = some v) : v ≤ 300 := by
  unfold cand at h
  split at h
  · cases q : wD D i j with
    | none => rw [q] at h; cases h
    | some u =>
      rw [q] at h
      cases h
      have := wD_lt hk q
      have := best_le hk (f j)
      show u + best D (f j) ≤ 300
      omega
  · cases h
theorem candb1 {p : Nat → Bool} {f : Nat → Nat} {i j v : Nat} (h : cand (w1 D) p (fun j => most D (f j)) i j = some v) : v ≤ 300 := by
  unfold cand at h
  split at h
  · cases q : wD D i j with
    | none => rw [w1_n q] at h; cases h
    | some u =>
      rw [w1_s q] at h
      cases h
      have := most_le D (f j)
      show 1 + most D (f j) ≤ 300
      omega
  · cases h
end WGH
