/-! the reference's turns -/
section DUM
variable {G : Glob} {M : Mem} {Q : Option Value → Mem → Prop} {S : St} {D : Dr} {n ins N last w c : Nat}
def dig (c i : Nat) : Nat := c / 3 ^ i % 3
def hs (n w c : Nat) : Nat := sb (fun i => dig c i == w) n
theorem dig_lt (c i : Nat) : dig c i < 3 := Nat.mod_lt _ (by decide)
theorem hs_tb (n w c i : Nat) : (hs n w c).testBit i = (decide (i < n) && (dig c i == w)) := sb_tb _ _ _
theorem hs_lt (hn : n ≤ 8) (w c : Nat) : hs n w c < 256 := p256 hn (sb_lt _ _)
theorem hs_ln (n w c : Nat) : hs n w c < 2 ^ n := sb_lt _ _
theorem p3_le (hn : n ≤ 8) : 3 ^ n ≤ 6561 := Nat.pow_le_pow_right (n := 3) (by decide) hn
/-- those of one set that are not in another one -/
def nd (a b : Nat) : Nat := a ^^^ (a &&& b)
theorem nd_tb (a b i : Nat) : (nd a b).testBit i = (a.testBit i && !(b.testBit i)) := by
  unfold nd
  rw [Nat.testBit_xor, Nat.testBit_and]
  cases a.testBit i <;> cases b.testBit i <;> rfl
theorem nx_nd (a b : Nat) : nI a &&& (nI b ^^^ (-1 : Int32)) = nI (nd a b) := by
  have e : (-1 : Int32) = Int32.ofBitVec (BitVec.allOnes 32) := by decide
  rw [e]
  apply Int32.toBitVec_inj.1
  show BitVec.ofNat 32 a &&& (BitVec.ofNat 32 b ^^^ BitVec.allOnes 32) = BitVec.ofNat 32 (nd a b)
  apply BitVec.eq_of_getLsbD_eq
  intro i hi
  rw [BitVec.getLsbD_and, BitVec.getLsbD_xor, BitVec.getLsbD_ofNat, BitVec.getLsbD_ofNat, BitVec.getLsbD_ofNat, BitVec.getLsbD_allOnes, nd_tb, decide_eq_true hi, Bool.true_and, Bool.true_and, Bool.true_and, Bool.xor_true]
theorem nd_0 {a b : Nat} : nd a b = 0 ↔ ∀ i, a.testBit i = true → b.testBit i = true := by
  constructor
  · intro h i hi
    have h2 := nd_tb a b i
    rw [h, Nat.zero_testBit, hi] at h2
    cases q : b.testBit i
    · rw [q] at h2; cases h2
    · rfl
  · intro h
    refine Nat.eq_of_testBit_eq fun i => ?_
    rw [nd_tb, Nat.zero_testBit]
    cases q : a.testBit i
    · rfl
    · rw [h i q]; rfl
def gn (n c : Nat) : Nat := sb (fun i => !(dig c i == 0)) n
theorem gn_tb (n c i : Nat) : (gn n c).testBit i = (decide (i < n) && !(dig c i == 0)) := sb_tb _ _ _
theorem gn_is (n c : Nat) : nd (2 ^ n - 1) (hs n 0 c) = gn n c := by
  refine Nat.eq_of_testBit_eq fun i => ?_
  rw [nd_tb, hs_tb, gn_tb, Nat.testBit_two_pow_sub_one]
  cases decide (i < n) <;> cases (dig c i == 0) <;> rfl
def ct (p : Nat → Bool) : Nat → Nat
  | 0 => 0
  | n + 1 => ct p n + (if p n = true then 1 else 0)
theorem ct_3 {p q r s : Nat → Bool} : ∀ n, (∀ i, i < n → (if p i = true then 1 else 0) = (if q i = true then 1 else 0) + (if r i = true then 1 else 0) + (if s i = true then 1 else 0)) → ct p n = ct q n + ct r n + ct s n
  | 0, _ => rfl
  | n + 1, h => by
    have ih := ct_3 n fun i hi => h i (by omega)
    have := h n (by omega)
    unfold ct
    omega
set_option maxRecDepth 100000 in
theorem pop_ct : ∀ m, m < 256 → pop m = ct (fun i => m.testBit i) 8 := by decide +kernel
set_option maxRecDepth 100000 in
theorem pop_z : ∀ m, m < 256 → pop m = 0 → m = 0 := by decide +kernel
def tkn (n c : Nat) : Nat := pop (hs n 1 c) + pop (hs n 2 c)
theorem tkn_is (hn : n ≤ 8) : pop (gn n c) = tkn n c := by
  unfold tkn
  rw [pop_ct (gn n c) (p256 hn (sb_lt _ _)), pop_ct _ (hs_lt hn 1 c), pop_ct _ (hs_lt hn 2 c)]
  have h := ct_3 (p := fun i => (gn n c).testBit i) (q := fun i => (hs n 1 c).testBit i) (r := fun i => (hs n 2 c).testBit i) (s := fun _ => false) 8 fun i _ => by
    rw [gn_tb, hs_tb, hs_tb]
    have := dig_lt c i
    rcases (show dig c i = 0 ∨ dig c i = 1 ∨ dig c i = 2 by omega) with e | e | e <;> rw [e] <;> cases decide (i < n) <;> rfl
  have z : ∀ k, ct (fun _ => false) k = 0 := fun k => by
    induction k with
    | zero => rfl
    | succ k ih => show ct _ k + 0 = 0; omega
  rw [h, z, Nat.add_zero]
theorem ok_of (h : ∀ i, (gn n c).testBit i = true → ins.testBit i = true) : Okp ins (hs n 1 c) (hs n 2 c) := by
  refine ⟨fun i hi => ?_, fun i hi => h i ?_⟩
  · rw [hs_tb] at hi
    rw [hs_tb]
    cases q : decide (i < n)
    · rfl
    · rw [q, Bool.true_and] at hi
      rw [Bool.true_and, beq_iff_eq.mp hi]
      rfl
  · rw [hs_tb, hs_tb] at hi
    rw [gn_tb]
    cases q : decide (i < n)
    · rw [q] at hi; simp at hi
    · rw [q, Bool.true_and, Bool.true_and, beq_iff_eq, beq_iff_eq] at hi
      rcases hi with e | e <;> rw [e] <;> rfl
theorem pop_fr {m o : Nat} (hi : ins < 256) (h : Okp ins m o) : pop ins = pop m + pop o + pop (fr ins m o) ∧ fr ins m o < 256 := by
  have hm : m < 256 := sub_lt (k := 8) hi fun i q => h.2 i (Or.inl q)
  have ho : o < 256 := sub_lt (k := 8) hi fun i q => h.2 i (Or.inr q)
  have hf : fr ins m o < 256 := sub_lt (k := 8) hi fun i q => by
    rw [fr_tb h] at q
    cases z : ins.testBit i
    · rw [z] at q; simp at q
    · rfl
  refine ⟨?_, hf⟩
  rw [pop_ct _ hi, pop_ct _ hm, pop_ct _ ho, pop_ct _ hf]
  refine ct_3 8 fun i _ => ?_
  rw [fr_tb h]
  have h1 := h.1 i
  have h2 := h.2 i
  cases a : ins.testBit i <;> cases b : m.testBit i <;> cases c : o.testBit i <;> simp_all
def sgn (w : Nat) (x : Int) : Int := if w = 0 then x else -x
/-- what one is better off by at last, by turns: of who has what -/
def FV (D : Dr) (ins N c : Nat) : Int := sgn (tkn (dn D) c % 2) (vl D (N - tkn (dn D) c) (hs (dn D) (1 + tkn (dn D) c % 2) c) (hs (dn D) (2 - tkn (dn D) c % 2) c) (fr ins (hs (dn D) (1 + tkn (dn D) c % 2) c) (hs (dn D) (2 - tkn (dn D) c % 2) c)))
theorem ok_w (h : Okp ins (hs n 1 c) (hs n 2 c)) (hw : w < 2) : Okp ins (hs n (1 + w) c) (hs n (2 - w) c) := by
  rcases (show w = 0 ∨ w = 1 by omega) with rfl | rfl
  · exact h
  · exact h.sw
theorem pop_w (n c : Nat) (hw : w < 2) : pop (hs n (1 + w) c) + pop (hs n (2 - w) c) = tkn n c := by
  rcases (show w = 0 ∨ w = 1 by omega) with rfl | rfl
  · rfl
  · unfold tkn; rw [Nat.add_comm]
theorem p3_pos (i : Nat) : 0 < 3 ^ i := Nat.pow_pos (by decide)
/-- one more is taken -/
theorem dig_add {i d : Nat} (hd : d < 3) (h0 : dig c i = 0) (j : Nat) : dig (c + d * 3 ^ i) j = if j = i then d else dig c j := by
  unfold dig at h0 ⊢
  by_cases e : j = i
  · rw [if_pos e, e, Nat.add_mul_div_right _ _ (p3_pos i)]
    omega
  rw [if_neg e]
  by_cases l : j < i
  · obtain ⟨k, rfl⟩ : ∃ k, i = j + k + 1 := ⟨i - j - 1, by omega⟩
    rw [show d * 3 ^ (j + k + 1) = (3 * (d * 3 ^ k)) * 3 ^ j by rw [Nat.pow_succ, Nat.pow_add]; simp [Nat.mul_comm, Nat.mul_left_comm], Nat.add_mul_div_right _ _ (p3_pos j)]
    omega
  · obtain ⟨k, rfl⟩ : ∃ k, j = i + k + 1 := ⟨j - i - 1, by omega⟩
    have z : ∀ x : Nat, x / 3 ^ (i + k + 1) = x / 3 ^ i / 3 / 3 ^ k := fun x => by
      rw [Nat.div_div_eq_div_mul, Nat.div_div_eq_div_mul]
      congr 1
      rw [Nat.pow_succ, Nat.pow_add]
      simp [Nat.mul_comm, Nat.mul_left_comm]
    rw [z, z, Nat.add_mul_div_right _ _ (p3_pos i), show (c / 3 ^ i + d) / 3 = c / 3 ^ i / 3 by omega]
theorem add_lt {i d : Nat} (hi : i < n) (hc : c < 3 ^ n) (hd : d < 3) (h0 : dig c i = 0) : c + d * 3 ^ i < 3 ^ n := by
  obtain ⟨k, rfl⟩ : ∃ k, n = i + k + 1 := ⟨n - i - 1, by omega⟩
  have z : ∀ x : Nat, x < 3 ^ (i + k + 1) ↔ x / 3 ^ i / 3 < 3 ^ k := fun x => by
    rw [Nat.div_div_eq_div_mul, Nat.div_lt_iff_lt_mul (Nat.mul_pos (p3_pos i) (by decide)), ← Nat.pow_succ, ← Nat.pow_add]
    rw [show k + (i + 1) = i + k + 1 by omega]
  unfold dig at h0
  rw [z] at hc ⊢
  rw [Nat.add_mul_div_right _ _ (p3_pos i), show (c / 3 ^ i + d) / 3 = c / 3 ^ i / 3 by omega]
  exact hc
theorem hs_add {i : Nat} (hi : i < n) (hw : w < 2) (h0 : dig c i = 0) : hs n (1 + w) (c + (1 + w) * 3 ^ i) = hs n (1 + w) c ||| 2 ^ i ∧ hs n (2 - w) (c + (1 + w) * 3 ^ i) = hs n (2 - w) c := by
  refine ⟨Nat.eq_of_testBit_eq fun j => ?_, Nat.eq_of_testBit_eq fun j => ?_⟩
  · rw [Nat.testBit_or, Nat.testBit_two_pow, hs_tb, hs_tb, dig_add (by omega) h0]
    by_cases e : j = i
    · subst e; simp [hi]
    · rw [if_neg e, decide_eq_false (show ¬ i = j from fun q => e q.symm), Bool.or_false]
  · rw [hs_tb, hs_tb, dig_add (by omega) h0]
    by_cases e : j = i
    · subst e
      rw [if_pos rfl, h0, beq_eq_false_iff_ne.mpr (show 1 + w ≠ 2 - w by omega), beq_eq_false_iff_ne.mpr (show 0 ≠ 2 - w by omega)]
    · rw [if_neg e]
theorem mxl_hi {v : Nat → Int} {f : Nat} (hf : ∀ k, n ≤ k → f.testBit k = false) : ∀ j, mxl v f (n + j) = mxl v f n
  | 0 => rfl
  | j + 1 => by
    rw [show n + (j + 1) = n + j + 1 from rfl, mxl_n (hf _ (by omega))]
    exact mxl_hi hf j
end DUM
