/-! promises 34, 35: chances -/
section CHN
variable {G : Glob} {M : Mem} {Q : Option Value → Mem → Prop} {S : St} {D : Dr} {n ins p q left : Nat}
/-- by how many of twelve one is lost -/
def lsN (x : Gl) (p q : Nat) : Nat := if gK x = 3 then 0 else if isN (gK x) 2 = true then (if p < q then q else p) else if gH x = 0 then p else q
theorem lsN_le {x : Gl} (hp : p ≤ 12) (hq : q ≤ 12) : lsN x p q ≤ 12 := by
  unfold lsN
  split <;> (try split) <;> (try split) <;> omega
def wyF (D : Dr) (ins p q left i : Nat) : Nat := if left.testBit i = true then 12 - lsN (glD D i) p q else if ins.testBit i = true then lsN (glD D i) p q else 1
def wys (D : Dr) (ins p q left : Nat) : Nat → Nat
  | 0 => 1
  | i + 1 => wys D ins p q left i * wyF D ins p q left i
def alw (ins : Nat) : Nat → Nat
  | 0 => 1
  | i + 1 => alw ins i * (if ins.testBit i = true then 12 else 1)
theorem wyF_le (D : Dr) (hp : p ≤ 12) (hq : q ≤ 12) (i : Nat) : wyF D ins p q left i ≤ 12 := by
  have := lsN_le (x := glD D i) hp hq
  unfold wyF
  split <;> (try split) <;> omega
theorem wys_le (D : Dr) (hp : p ≤ 12) (hq : q ≤ 12) : ∀ n, wys D ins p q left n ≤ 12 ^ n
  | 0 => Nat.le_refl _
  | n + 1 => by
    rw [Nat.pow_succ]
    exact Nat.mul_le_mul (wys_le D hp hq n) (wyF_le D hp hq n)
theorem alw_le (ins : Nat) : ∀ n, alw ins n ≤ 12 ^ n ∧ 0 < alw ins n
  | 0 => ⟨Nat.le_refl _, Nat.one_pos⟩
  | n + 1 => by
    have h := alw_le ins n
    rw [Nat.pow_succ]
    refine ⟨Nat.mul_le_mul h.1 ?_, Nat.mul_pos h.2 ?_⟩ <;> split <;> omega
theorem p12 {n : Nat} (hn : n ≤ 8) : 12 ^ n ≤ 429981696 := Nat.pow_le_pow_right (n := 12) (by decide) hn
def sw (D : Dr) (ins p q : Nat) (val : Nat → Nat) : Nat → Nat
  | 0 => 0
  | j + 1 => sw D ins p q val j + (if nd j ins = 0 then val j * wys D ins p q j (dn D) else 0)
theorem sw_y {D : Dr} {val : Nat → Nat} {j : Nat} (h : nd j ins = 0) : sw D ins p q val (j + 1) = sw D ins p q val j + val j * wys D ins p q j (dn D) := by
  show _ + (if nd j ins = 0 then _ else 0) = _
  rw [if_pos h]
theorem sw_n {D : Dr} {val : Nat → Nat} {j : Nat} (h : ¬ nd j ins = 0) : sw D ins p q val (j + 1) = sw D ins p q val j := by
  show _ + (if nd j ins = 0 then _ else 0) = _
  rw [if_neg h, Nat.add_zero]
theorem sw_le {D : Dr} (h8 : dn D ≤ 8) {val : Nat → Nat} (hv : ∀ j, val j ≤ 192) (hp : p ≤ 12) (hq : q ≤ 12) : ∀ j, sw D ins p q val j ≤ j * 82556485632
  | 0 => Nat.le_refl _
  | j + 1 => by
    have ih := sw_le h8 hv hp hq j
    have h1 := Nat.le_trans (wys_le (ins := ins) (left := j) D hp hq (dn D)) (p12 h8)
    have h2 : val j * wys D ins p q j (dn D) ≤ 192 * 429981696 := Nat.mul_le_mul (hv j) h1
    by_cases c : nd j ins = 0
    · rw [sw_y c]; omega
    · rw [sw_n c]; exact Nat.le_trans ih (Nat.mul_le_mul_right _ (Nat.le_succ j))
/-! the common divisor -/
theorem gcd_st (a b : Nat) : Nat.gcd a b = Nat.gcd b (a % b) := by rw [Nat.gcd_comm a b, Nat.gcd_rec b a, Nat.gcd_comm]
theorem mod2 {b r : Nat} (h0 : 0 < r) (h : r ≤ b) : 2 * (b % r) < b := by
  have h1 := Nat.mod_lt b h0
  have h2 := Nat.mod_add_div b r
  have h3 : r ≤ r * (b / r) := Nat.le_mul_of_pos_right r (Nat.div_pos h h0)
  omega
theorem lc0 {a : Nat} (ha : a < 2 ^ 63) : lg_cmp (lN a) 0 = 0 ↔ a = 0 := by rw [lg_cmp_eq, show (0 : Int64) = lN 0 from rfl, pk_lEQ ha (by decide)]
theorem lne0 {a : Nat} (ha : a < 2 ^ 63) (h : 0 < a) : ¬ lN a = 0 := by
  rw [show (0 : Int64) = lN 0 from rfl, pk_lEQ ha (by decide)]
  omega
theorem cd_loop : ∀ (j k a b : Nat), a < 2 ^ 63 → b < 2 ^ 63 → b < 2 ^ j → k + 2 * j < 199 → Q (some (.long (lN (Nat.gcd a b)))) M → P_X1_commonDivisor_3 G (lN a) (lN b) (nI k) M Q := by
  intro j
  induction j with
  | zero =>
    intro k a b ha hb hj hk h
    have b0 : b = 0 := by have : 2 ^ 0 = 1 := rfl; omega
    subst b0
    rw [Nat.gcd_zero_right] at h
    exact v_X1_commonDivisor_3 (br_t (show nI k < nI 200 from nI_lt (by omega) (by decide)) (br_t ((lc0 hb).mpr rfl) h))
  | succ j ih =>
    intro k a b ha hb hj hk h
    refine v_X1_commonDivisor_3 (br_t (show nI k < nI 200 from nI_lt (by omega) (by decide)) ⟨fun c => ?_, fun c => ?_⟩)
    · rw [(lc0 hb).mp c, Nat.gcd_zero_right] at h
      exact h
    have c0 : 0 < b := by
      rcases Nat.eq_zero_or_pos b with q | q
      · exact absurd ((lc0 hb).mpr q) c
      · exact q
    have hr := Nat.mod_lt a c0
    refine ⟨lne0 hb c0, ?_⟩
    rw [pk_lRem ha c0 hb, nI_1]
    refine v_X1_commonDivisor_3 (br_t (show nI (k + 1) < nI 200 from nI_lt (by omega) (by decide)) ⟨fun d => ?_, fun d => ?_⟩)
    · have d' := (lc0 (by omega)).mp d
      rw [gcd_st, d', Nat.gcd_zero_right] at h
      exact h
    have d0 : 0 < a % b := by
      rcases Nat.eq_zero_or_pos (a % b) with q | q
      · exact absurd ((lc0 (by omega)).mpr q) d
      · exact q
    refine ⟨lne0 (by omega) d0, ?_⟩
    rw [pk_lRem hb d0 (by omega), nI_1]
    have m2 := mod2 d0 (Nat.le_of_lt hr)
    rw [Nat.pow_succ] at hj
    refine ih (k + 1 + 1) (a % b) (b % (a % b)) (by omega) (by omega) (by omega) (by omega) ?_
    rw [← gcd_st, ← gcd_st]
    exact h
/-- upper, lower -/
def sU (S : St) (u l : Int64) : St := (S.1, S.2.1, S.2.2.1, S.2.2.2.1, S.2.2.2.2.1, S.2.2.2.2.2.1, S.2.2.2.2.2.2.1, u, l)
theorem SOk.sU {S : St} (h : SOk S) (u l : Int64) : SOk (sU S u l) := h
theorem RC.up (hk : SOk S) (hC : RC S M) (u l : Int64) : RC (sU S u l) (upL (upL M 42 1 u) 42 2 l) := by
  have e : Eqv (fun a k => a = 42 ∧ 1 ≤ k) M (upL (upL M 42 1 u) 42 2 l) := (Eqv.rf.upL (by omega)).upL (by omega)
  obtain ⟨o1, o2, o3, o4, o5⟩ := hC.2.2.2.2.1
  exact hC.sO hk e (fun a k q => by omega) ⟨o1, o2, o3, by rw [upL_n _ _ (by omega), upL_s], by rw [upL_s]⟩
theorem RM.up (hM : RM S M) (u l : Int64) : RM (sU S u l) (upL (upL M 71 1 u) 71 2 l) := by
  have e : Eqv (fun a k => a = 71 ∧ 1 ≤ k ∧ k ≤ 2) M (upL (upL M 71 1 u) 71 2 l) := (Eqv.rf.upL (by omega)).upL (by omega)
  obtain ⟨o1, o2, o3, o4, o5⟩ := hM.2.2.2.2
  exact hM.sO e (fun a k q => by omega) ⟨o1, o2, o3, by rw [upL_n _ _ (by omega), upL_s], by rw [upL_s]⟩
/-! the class's -/
theorem c_loss (hk : SOk S) (hC : RC S M) {i : Nat} (hi : i < dn S.2.2.1) (hp : p ≤ 12) (hq : q ≤ 12) (h : Q (some (.int (nI (lsN (glD S.2.2.1 i) p q)))) M) : C_X1_lossOf G (55 + i) (nI p) (nI q) M Q := by
  have ok := glD_ok hk.2.2.1 hi
  have g := hC.gl hi
  refine v_X1_lossOf (kd8 hk.2.2.1 hi) ?_
  rw [g.1, k3 ok.1, nmx (by omega) (by omega)]
  unfold lsN at h
  refine ⟨fun c => ?_, fun c => isOf_ok (c := 2) (kd8 hk.2.2.1 hi) g ok (by decide) (RI.mk ⟨fun d => ?_, fun d => ?_⟩)⟩
  · rw [if_pos c] at h; exact h
  · rw [if_neg c, if_neg (by rw [bI_0.mp d]; decide)] at h
    rw [g.2.2.1, show (0 : Int32) = nI 0 from rfl, nI_eq (a := gH (glD S.2.2.1 i)) (by have := ok.2.2.1; omega) (by decide)]
    refine ⟨fun e => ?_, fun e => ?_⟩
    · rw [if_pos e] at h; exact h
    · rw [if_neg e] at h; exact h
  · rw [if_neg c, if_pos (bI_n0.mp d)] at h; exact h
theorem c_ways (hk : SOk S) (hC : RC S M) (hp : p ≤ 12) (hq : q ≤ 12) (h43 : ∀ i, i < dn S.2.2.1 → M.1 43 i = nI (lsN (glD S.2.2.1 i) p q)) (hins : ins < 256) (hl : left < 256) (h : Q (some (.long (lN (wys S.2.2.1 ins p q left (dn S.2.2.1))))) M) : C_X1_waysTo G (nI ins) (nI left) M Q := by
  have h8 := hk.2.2.1.1
  have lp : ∀ (k i : Nat), i + k = dn S.2.2.1 → P_X1_waysTo_6 G (nI ins) (nI left) (lN (wys S.2.2.1 ins p q left i)) (nI i) M Q := by
    intro k
    induction k with
    | zero =>
      intro i hi
      have : i = dn S.2.2.1 := by omega
      subst this
      refine v_X1_waysTo_6 ?_
      rw [hC.nz]
      exact br_f (nI_nlt (Nat.le_refl _) (by omega)) h
    | succ k ih =>
      intro i hi
      have hi2 : i < dn S.2.2.1 := by omega
      have ih1 := ih (i + 1) (by omega)
      have l12 := lsN_le (x := glD S.2.2.1 i) hp hq
      rw [show wys S.2.2.1 ins p q left (i + 1) = wys S.2.2.1 ins p q left i * wyF S.2.2.1 ins p q left i from rfl] at ih1
      unfold wyF at ih1
      refine v_X1_waysTo_6 ?_
      rw [hC.nz, tb_and _ hl i (by omega), tb_and _ hins i (by omega), ncl (by omega), h43 i hi2, show (12 : Int32) = nI 12 from rfl, pk_sub l12, nI_l (by omega), nI_l (by omega), lN_mul, lN_mul, nI_1]
      refine br_t (nI_lt hi2 (by omega)) ⟨fun c => ⟨fun d => ?_, fun d => ⟨vin (by omega), ?_⟩⟩, fun c => ⟨vin (by omega), ?_⟩⟩
      · rw [if_neg (by rw [c]; decide), if_neg (by rw [d]; decide), Nat.mul_one] at ih1
        exact ih1
      · rintro _ rfl
        rw [if_neg (by rw [c]; decide), if_pos (tbf d)] at ih1
        exact ih1
      · rintro _ rfl
        rw [if_pos (tbf c)] at ih1
        exact ih1
  exact v_X1_waysTo (lp (dn S.2.2.1) 0 (by omega))
theorem rk13_loop {o4 : Nat} (ho : kd o4 = 20) (hk : SOk S) (M0 : Mem) (hC0 : RC S M0) (hp : p ≤ 12) (hq : q ≤ 12) (hins : ins < 256) (h : ∀ M', Eqv (fun a _ => a = 43) M0 M' → (∀ i, i < dn S.2.2.1 → M'.1 43 i = nI (lsN (glD S.2.2.1 i) p q)) → P_X1_reckon_71 G o4 (nI ins) (lN (alw ins (dn S.2.2.1))) 0 0 M' Q) :
    ∀ (k i : Nat) (M : Mem), i + k = dn S.2.2.1 → Eqv (fun a _ => a = 43) M0 M → (∀ j, j < i → M.1 43 j = nI (lsN (glD S.2.2.1 j) p q)) → P_X1_reckon_13 G (nI p) (nI q) o4 (nI ins) (lN (alw ins i)) (nI i) M Q := by
  have h8 := hk.2.2.1.1
  intro k
  induction k with
  | zero =>
    intro i M hi e h43
    have : i = dn S.2.2.1 := by omega
    subst this
    have hC : RC S M := hC0.scr hk (e.mono (by unfold scrC; omega))
    refine v_X1_reckon_13 ho ?_
    rw [hC.nz]
    exact br_f (nI_nlt (Nat.le_refl _) (by omega)) (h M e h43)
  | succ k ih =>
    intro i M hi e h43
    have hi2 : i < dn S.2.2.1 := by omega
    have hC : RC S M := hC0.scr hk (e.mono (by unfold scrC; omega))
    refine v_X1_reckon_13 ho ?_
    rw [hC.nz, ncl (by omega), tb_and _ hins i (by omega), show (12 : Int64) = lN 12 from rfl, lN_mul, nI_1]
    refine br_t (nI_lt hi2 (by omega)) ⟨vin (by omega), c_loss hk hC hi2 hp hq (RI.mk ⟨vin (by omega), ?_⟩)⟩
    rintro _ rfl
    have ih1 := ih (i + 1) (upI M 43 i (nI (lsN (glD S.2.2.1 i) p q))) (by omega) (e.upI rfl) fun j hj => by
      by_cases c : j = i
      · subst c; rw [upI_s]
      · rw [upI_n _ _ (by omega)]; exact h43 j (by omega)
    rw [show alw ins (i + 1) = alw ins i * (if ins.testBit i = true then 12 else 1) from rfl] at ih1
    refine ⟨fun c => ?_, fun c => ?_⟩
    · rw [if_neg (by rw [c]; decide), Nat.mul_one] at ih1; exact ih1
    · rw [if_pos (tbf c)] at ih1; exact ih1
theorem and_tab {a b : Nat} (ha : a < 256) : (nI a &&& (nI b ^^^ (-1 : Int32))) = 0 ↔ nd a b = 0 := by
  rw [nx_nd, show (0 : Int32) = nI 0 from rfl, nI_eq (by have : nd a b < 2 ^ 8 := Nat.xor_lt_two_pow ha (Nat.lt_of_le_of_lt Nat.and_le_left ha); omega) (by omega)]
theorem rk_ok {o4 : Nat} (ho : kd o4 = 20) (hl4 : ln o4 = 256) (h43 : o4 ≠ 43) (hk : SOk S) (hC : RC S M) (hp : p ≤ 12) (hq : q ≤ 12) {val : Nat → Nat} (hv : ∀ j, val j ≤ 192) (hv4 : ∀ j, j < 2 ^ dn S.2.2.1 → M.1 o4 j = nI (val j))
    (h : ∀ M', Eqv (fun a k => a = 43 ∨ (a = 42 ∧ 1 ≤ k)) M M' → RC (sU S (lN (sw S.2.2.1 (sIn S.2.2.1 0) p q val (2 ^ dn S.2.2.1) / Nat.gcd (sw S.2.2.1 (sIn S.2.2.1 0) p q val (2 ^ dn S.2.2.1)) (alw (sIn S.2.2.1 0) (dn S.2.2.1)))) (lN (alw (sIn S.2.2.1 0) (dn S.2.2.1) / Nat.gcd (sw S.2.2.1 (sIn S.2.2.1 0) p q val (2 ^ dn S.2.2.1)) (alw (sIn S.2.2.1 0) (dn S.2.2.1))))) M' → Q none M') : C_X1_reckon G (nI p) (nI q) o4 M Q := by
  have h8 := hk.2.2.1.1
  have p2 := p2_257 h8
  have hins := sIn_lt S.2.2.1 h8 0
  refine v_X1_reckon ho (set_ok (w := 0) hk.2.2.1 hC.2.2.1 (by decide) (RI.mk ?_))
  generalize sIn S.2.2.1 0 = ins at *
  have al := alw_le ins (dn S.2.2.1)
  have a12 := p12 h8
  have swl : ∀ j, j ≤ 256 → sw S.2.2.1 ins p q val j ≤ 256 * 82556485632 := fun j hj => Nat.le_trans (sw_le h8 hv hp hq j) (Nat.mul_le_mul_right _ hj)
  refine rk13_loop ho hk M hC hp hq hins (fun M1 e1 f1 => ?_) (dn S.2.2.1) 0 M (by omega) Eqv.rf (fun j hj => absurd hj (Nat.not_lt_zero j))
  have hC1 : RC S M1 := hC.scr hk (e1.mono (by unfold scrC; omega))
  have lp : ∀ (k j : Nat), j + k = 2 ^ dn S.2.2.1 → P_X1_reckon_71 G o4 (nI ins) (lN (alw ins (dn S.2.2.1))) (lN (sw S.2.2.1 ins p q val j)) (nI j) M1 Q := by
    intro k
    induction k with
    | zero =>
      intro j hj
      have : j = 2 ^ dn S.2.2.1 := by omega
      subst this
      have sl := swl (2 ^ dn S.2.2.1) p2
      refine v_X1_reckon_71 ho ?_
      rw [hC1.nz, sh1n h8]
      have g0 : 0 < Nat.gcd (alw ins (dn S.2.2.1)) (sw S.2.2.1 ins p q val (2 ^ dn S.2.2.1)) := Nat.gcd_pos_of_pos_left _ al.2
      have g1 : Nat.gcd (alw ins (dn S.2.2.1)) (sw S.2.2.1 ins p q val (2 ^ dn S.2.2.1)) ≤ alw ins (dn S.2.2.1) := Nat.gcd_le_left _ al.2
      refine br_f (nI_nlt (Nat.le_refl _) (by omega)) (v_X1_commonDivisor (cd_loop 45 0 _ _ (by omega) (by omega) (by omega) (by omega) (RJ.mk ?_)))
      have gp : (0 : Int32) < lg_cmp (lN (Nat.gcd (alw ins (dn S.2.2.1)) (sw S.2.2.1 ins p q val (2 ^ dn S.2.2.1)))) 0 := by
        rw [lg_cmp_gt, show (0 : Int64) = lN 0 from rfl, pk_lLT (by decide) (by omega)]
        exact g0
      refine br_t gp ⟨lne0 (by omega) g0, ?_⟩
      rintro _ rfl
      refine br_t gp ⟨lne0 (by omega) g0, ?_⟩
      rintro _ rfl
      rw [pk_lDiv (by omega) g0 (by omega), pk_lDiv (by omega) g0 (by omega), Nat.gcd_comm]
      exact h _ (((e1.mono (by omega)).upL (by omega)).upL (by omega)) (hC1.up hk _ _)
    | succ k ih =>
      intro j hj
      have ih1 := ih (j + 1) (by omega)
      have sl := swl j (by omega)
      refine v_X1_reckon_71 ho ?_
      rw [hC1.nz, sh1n h8, hl4, and_tab (a := j) (by omega), nI_1]
      refine br_t (nI_lt (by omega) (by omega)) (br_t (show nI j < nI 256 from nI_lt (by omega) (by decide)) ⟨fun c => ⟨vin (by omega), c_ways hk hC1 hp hq f1 hins (by omega) (RJ.mk ?_)⟩, fun c => ?_⟩)
      · rw [ncl (by omega), e1.i h43, hv4 j (by omega), nI_l (by have := hv j; omega), lN_mul, lN_add]
        rintro _ rfl
        rw [sw_y c] at ih1
        exact ih1
      · rw [sw_n c] at ih1; exact ih1
  exact lp (2 ^ dn S.2.2.1) 0 (by omega)
end CHN
