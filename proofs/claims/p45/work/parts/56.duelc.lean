/-! promise 33: by turns of two -/
section DUC
variable {G : Glob} {M : Mem} {Q : Option Value → Mem → Prop} {S : St} {D : Dr} {n ins : Nat}
def iI (x : Int) : Int32 := Int32.ofInt x
theorem iI_toInt {x : Int} (h1 : -2000000 ≤ x) (h2 : x ≤ 2000000) : (iI x).toInt = x := by
  unfold iI
  rw [Int32.toInt_ofInt]
  exact (show x.bmod (2 ^ 32) = x from Int.bmod_eq_of_le (by omega) (by omega))
theorem iI_lt {x y : Int} (h1 : -2000000 ≤ x) (h2 : x ≤ 2000000) (h3 : -2000000 ≤ y) (h4 : y ≤ 2000000) : iI x < iI y ↔ x < y := by
  rw [Int32.lt_iff_toInt_lt, iI_toInt h1 h2, iI_toInt h3 h4]
theorem iI_neg (x : Int) : -(iI x) = iI (-x) := (Int32.ofInt_neg ..).symm
theorem iI_sub (a b : Nat) : nI a - nI b = iI ((a : Int) - b) := by
  unfold iI nI
  rw [Int32.ofInt_sub, Int32.ofInt_eq_ofNat, Int32.ofInt_eq_ofNat]
theorem iI_u {x : Int} (h1 : -2000000 ≤ x) (h2 : x < 1000000) : ¬ iI x = 1000000 := fun e => by
  have h3 := congrArg Int32.toInt e
  rw [iI_toInt h1 (by omega), show (1000000 : Int32).toInt = 1000000 by decide] at h3
  omega
/-- the greatest of those in a set -/
def mxl (v : Nat → Int) (f : Nat) : Nat → Int
  | 0 => -1000000
  | i + 1 => if f.testBit i = true then (if mxl v f i < v i then v i else mxl v f i) else mxl v f i
theorem mxl_n {v : Nat → Int} {f i : Nat} (h : f.testBit i = false) : mxl v f (i + 1) = mxl v f i := if_neg (by rw [h]; decide)
theorem mxl_y {v : Nat → Int} {f i : Nat} (h : f.testBit i = true) : mxl v f (i + 1) = if mxl v f i < v i then v i else mxl v f i := if_pos h
theorem mxl_or (v : Nat → Int) (f : Nat) : ∀ n, mxl v f n = -1000000 ∨ ∃ i, i < n ∧ f.testBit i = true ∧ mxl v f n = v i
  | 0 => Or.inl rfl
  | n + 1 => by
    have h := mxl_or v f n
    cases c : f.testBit n with
    | false =>
      rw [mxl_n c]
      rcases h with h | ⟨i, h1, h2, h3⟩
      · exact Or.inl h
      · exact Or.inr ⟨i, by omega, h2, h3⟩
    | true =>
      rw [mxl_y c]
      by_cases d : mxl v f n < v n
      · rw [if_pos d]; exact Or.inr ⟨n, by omega, c, rfl⟩
      · rw [if_neg d]
        rcases h with h | ⟨i, h1, h2, h3⟩
        · exact Or.inl h
        · exact Or.inr ⟨i, by omega, h2, h3⟩
theorem mxl_ge (v : Nat → Int) (f : Nat) : ∀ n i, i < n → f.testBit i = true → v i ≤ mxl v f n
  | 0, i, h, _ => absurd h (Nat.not_lt_zero i)
  | n + 1, i, h, hb => by
    have ih := mxl_ge v f n i
    by_cases e : i = n
    · subst e
      rw [mxl_y hb]
      split <;> omega
    · have := ih (by omega) hb
      cases c : f.testBit n with
      | false => rw [mxl_n c]; exact this
      | true => rw [mxl_y c]; split <;> omega
theorem mxl_bd {v : Nat → Int} {f n : Nat} (hv : ∀ i, i < n → -192 ≤ v i ∧ v i ≤ 192) : -1000000 ≤ mxl v f n ∧ mxl v f n ≤ 192 := by
  rcases mxl_or v f n with h | ⟨i, hi, _, h⟩
  · rw [h]; omega
  · rw [h]; have := hv i hi; omega
theorem mxl_bd2 {v : Nat → Int} {f n i : Nat} (hv : ∀ i, i < n → -192 ≤ v i ∧ v i ≤ 192) (hi : i < n) (hb : f.testBit i = true) : -192 ≤ mxl v f n ∧ mxl v f n ≤ 192 := by
  have h1 := mxl_ge v f n i hi hb
  have h2 := hv i hi
  have h3 := mxl_bd (f := f) hv
  omega
/-- what one who is to take can lead by: turns, what he has, what the other one has, what is free -/
def vl (D : Dr) : Nat → Nat → Nat → Nat → Int
  | 0, m, o, _ => (best D m : Int) - best D o
  | t + 1, m, o, f => if f = 0 then (best D m : Int) - best D o else mxl (fun i => -(vl D t o (m ||| 2 ^ i) (f ^^^ 2 ^ i))) f 8
theorem vl_0 (D : Dr) (t m o : Nat) : vl D t m o 0 = (best D m : Int) - best D o := by
  cases t with
  | zero => rfl
  | succ t => exact if_pos rfl
theorem vl_s (D : Dr) {t m o f : Nat} (hf : ¬ f = 0) : vl D (t + 1) m o f = mxl (fun i => -(vl D t o (m ||| 2 ^ i) (f ^^^ 2 ^ i))) f 8 := if_neg hf
theorem vl_bd (hk : DOk D) : ∀ (t m o f : Nat), f < 256 → -192 ≤ vl D t m o f ∧ vl D t m o f ≤ 192 := by
  have b0 : ∀ m o, -192 ≤ (best D m : Int) - best D o ∧ (best D m : Int) - best D o ≤ 192 := fun m o => by
    have h1 : best D m ≤ 192 := best_le hk m
    have h2 : best D o ≤ 192 := best_le hk o
    constructor <;> (show _ ≤ _; omega)
  intro t
  induction t with
  | zero => exact fun m o f _ => b0 m o
  | succ t ih =>
    intro m o f hf
    by_cases c : f = 0
    · rw [c, vl_0]; exact b0 m o
    · rw [vl_s D c]
      obtain ⟨i, hi, hb, _⟩ := tb_ex f hf (by omega)
      rcases mxl_or (fun i => -(vl D t o (m ||| 2 ^ i) (f ^^^ 2 ^ i))) f 8 with h | ⟨j, hj, hb2, h⟩
      · have h1 := mxl_ge (fun i => -(vl D t o (m ||| 2 ^ i) (f ^^^ 2 ^ i))) f 8 i hi hb
        have h2 := ih o (m ||| 2 ^ i) (f ^^^ 2 ^ i) (xor_lt8 hf hi)
        rw [h] at h1
        omega
      · rw [h]
        have h2 := ih o (m ||| 2 ^ j) (f ^^^ 2 ^ j) (xor_lt8 hf hj)
        omega
/-- none has what the other one has, both are of a set -/
def Okp (ins m o : Nat) : Prop := (∀ i, m.testBit i = true → o.testBit i = false) ∧ ∀ i, (m.testBit i = true ∨ o.testBit i = true) → ins.testBit i = true
def fr (ins m o : Nat) : Nat := ins ^^^ m ^^^ o
theorem Okp.sw {m o : Nat} (h : Okp ins m o) : Okp ins o m := by
  refine ⟨fun i hi => ?_, fun i hi => h.2 i (Or.comm.mp hi)⟩
  cases q : m.testBit i
  · rfl
  · have := h.1 i q
    rw [hi] at this
    cases this
theorem fr_sw (m o : Nat) : fr ins m o = fr ins o m := by unfold fr; rw [Nat.xor_assoc, Nat.xor_comm m o, ← Nat.xor_assoc]
theorem fr_tb {m o : Nat} (h : Okp ins m o) (i : Nat) : (fr ins m o).testBit i = (ins.testBit i && !(m.testBit i) && !(o.testBit i)) := by
  unfold fr
  rw [Nat.testBit_xor, Nat.testBit_xor]
  have h1 := h.1 i
  have h2 := h.2 i
  cases a : ins.testBit i <;> cases b : m.testBit i <;> cases c : o.testBit i <;> simp_all
theorem Okp.add {m o i : Nat} (h : Okp ins m o) (hi : (fr ins m o).testBit i = true) : Okp ins o (m ||| 2 ^ i) ∧ m.testBit i = false ∧ fr ins o (m ||| 2 ^ i) = fr ins m o ^^^ 2 ^ i := by
  rw [fr_tb h] at hi
  have hm : m.testBit i = false := by
    cases q : m.testBit i
    · rfl
    · rw [q] at hi; simp at hi
  have ho : o.testBit i = false := by
    cases q : o.testBit i
    · rfl
    · rw [q] at hi; simp at hi
  have hin : ins.testBit i = true := by
    cases q : ins.testBit i
    · rw [q] at hi; simp at hi
    · rfl
  refine ⟨⟨fun k hk => ?_, fun k hk => ?_⟩, hm, ?_⟩
  · rw [Nat.testBit_or, Nat.testBit_two_pow, h.sw.1 k hk, Bool.false_or]
    refine decide_eq_false fun e => ?_
    rw [← e, ho] at hk
    cases hk
  · rw [Nat.testBit_or, Nat.testBit_two_pow] at hk
    by_cases e : i = k
    · rw [← e]; exact hin
    · refine h.2 k ?_
      rcases hk with hk | hk
      · exact Or.inr hk
      · rw [decide_eq_false e, Bool.or_false] at hk; exact Or.inl hk
  · rw [or_xor hm]
    unfold fr
    rw [← Nat.xor_assoc, Nat.xor_assoc ins o m, Nat.xor_comm o m, ← Nat.xor_assoc]
theorem sub_lt {m k : Nat} (hi : ins < 2 ^ k) (h : ∀ i, m.testBit i = true → ins.testBit i = true) : m < 2 ^ k := by
  refine Nat.lt_pow_two_of_testBit _ fun i hk => ?_
  cases q : m.testBit i
  · rfl
  · have := h i q; rw [tb_hi hi hk] at this; cases this
set_option maxRecDepth 100000 in
theorem pop_add : ∀ m, m < 256 → ∀ i, i < 8 → m.testBit i = false → pop (m ||| 2 ^ i) = pop m + 1 := by decide +kernel
set_option maxRecDepth 100000 in
theorem th3_lt : ∀ m, m < 256 → th3 8 m < 3281 := by decide +kernel
def wy (m o : Nat) : Nat := th3 8 m + 2 * th3 8 o
theorem wy_injN : ∀ (n m o m' o' : Nat), (∀ i, m.testBit i = true → o.testBit i = false) → (∀ i, m'.testBit i = true → o'.testBit i = false) → m < 2 ^ n → o < 2 ^ n → m' < 2 ^ n → o' < 2 ^ n → th3 n m + 2 * th3 n o = th3 n m' + 2 * th3 n o' → m = m' ∧ o = o'
  | 0, m, o, m', o', _, _, a, b, c, d, _ => by
    have : 2 ^ 0 = 1 := rfl
    omega
  | n + 1, m, o, m', o', h, h', a, b, c, d, e => by
    have z : ∀ x y : Nat, (∀ i, x.testBit i = true → y.testBit i = false) → x % 2 + y % 2 ≤ 1 ∧ ∀ i, (x / 2).testBit i = true → (y / 2).testBit i = false := fun x y hxy => by
      refine ⟨?_, fun i hi => ?_⟩
      · have h0 := hxy 0
        rw [Nat.testBit_zero, Nat.testBit_zero] at h0
        by_cases q : x % 2 = 1
        · have := h0 (decide_eq_true q)
          have := of_decide_eq_false this
          omega
        · omega
      · have := hxy (i + 1)
        rw [Nat.testBit_succ, Nat.testBit_succ] at this
        exact this hi
    obtain ⟨d1, r1⟩ := z m o h
    obtain ⟨d2, r2⟩ := z m' o' h'
    rw [Nat.pow_succ] at a b c d
    have e1 : 3 * th3 n (m / 2) + m % 2 + 2 * (3 * th3 n (o / 2) + o % 2) = 3 * th3 n (m' / 2) + m' % 2 + 2 * (3 * th3 n (o' / 2) + o' % 2) := e
    have ih := wy_injN n (m / 2) (o / 2) (m' / 2) (o' / 2) r1 r2 (by omega) (by omega) (by omega) (by omega) (by omega)
    rw [ih.1, ih.2] at e1
    omega
theorem wy_ltN : ∀ (n m o : Nat), (∀ i, m.testBit i = true → o.testBit i = false) → m < 2 ^ n → o < 2 ^ n → th3 n m + 2 * th3 n o < 3 ^ n
  | 0, m, o, _, _, _ => (by decide : (0 + 2 * 0 : Nat) < 1)
  | n + 1, m, o, h, a, b => by
    have h0 := h 0
    rw [Nat.testBit_zero, Nat.testBit_zero] at h0
    have d1 : m % 2 + o % 2 ≤ 1 := by
      by_cases q : m % 2 = 1
      · have := of_decide_eq_false (h0 (decide_eq_true q))
        omega
      · omega
    rw [Nat.pow_succ] at a b
    have ih := wy_ltN n (m / 2) (o / 2) (fun i hi => by
      have := h (i + 1)
      rw [Nat.testBit_succ, Nat.testBit_succ] at this
      exact this hi) (by omega) (by omega)
    rw [Nat.pow_succ]
    show 3 * th3 n (m / 2) + m % 2 + 2 * (3 * th3 n (o / 2) + o % 2) < 3 ^ n * 3
    omega
theorem wy_lt {m o : Nat} (h : ∀ i, m.testBit i = true → o.testBit i = false) (a : m < 256) (b : o < 256) : wy m o < 6561 := wy_ltN 8 m o h a b
theorem iI_mx {a b : Int} (ha : -1000000 ≤ a ∧ a ≤ 192) (hb : -1000000 ≤ b ∧ b ≤ 192) : (if iI a < iI b then iI b else iI a) = iI (if a < b then b else a) := by
  by_cases c : a < b
  · rw [if_pos c, if_pos ((iI_lt (by omega) (by omega) (by omega) (by omega)).mpr c)]
  · rw [if_neg c, if_neg fun q => c ((iI_lt (by omega) (by omega) (by omega) (by omega)).mp q)]
/-- what is known is so -/
def MmI (D : Dr) (n ins : Nat) (M : Mem) : Prop := ∀ m o, Okp ins m o → M.1 40 (wy m o) = 1000000 ∨ M.1 40 (wy m o) = iI (vl D (n - (pop m + pop o)) m o (fr ins m o))
abbrev E40 : Mem → Mem → Prop := Eqv (fun a _ => a = 40)
theorem lead_ok (hk : SOk S) (M0 : Mem) (hC : RC S M0) (hT : TbC S.2.2.1 (2 ^ dn S.2.2.1) M0) (hins : ins < 2 ^ dn S.2.2.1) (hn6 : n ≤ 6) : ∀ (t d : Nat) (m o : Nat) (M : Mem) (Q : Option Value → Mem → Prop), t + 1 ≤ d → t + (pop m + pop o) = n → Okp ins m o → E40 M0 M → MmI S.2.2.1 n ins M →
    (∀ M', E40 M0 M' → MmI S.2.2.1 n ins M' → Q (some (.int (iI (vl S.2.2.1 t m o (fr ins m o))))) M') → C_X8_lead G d (nI m) (nI o) (nI (fr ins m o)) (nI t) M Q := by
  have h8 := hk.2.2.1.1
  have hp := p2_257 h8
  intro t
  induction t with
  | zero =>
    intro d m o M Q hd ht hok e hm h
    have hm1 : m < 2 ^ dn S.2.2.1 := sub_lt hins fun i hi => hok.2 i (Or.inl hi)
    have ho1 : o < 2 ^ dn S.2.2.1 := sub_lt hins fun i hi => hok.2 i (Or.inr hi)
    refine v_X8_lead (by omega) (br_f (by decide) ⟨vin (by omega), vin (by omega), ?_⟩)
    rw [ncl (by omega), ncl (by omega), e.i (by omega), e.i (by omega), (hT m hm1).1, (hT o ho1).1, iI_sub]
    exact h M e hm
  | succ t ih =>
    intro d m o M Q hd ht hok e hm h
    have hm1 : m < 2 ^ dn S.2.2.1 := sub_lt hins fun i hi => hok.2 i (Or.inl hi)
    have ho1 : o < 2 ^ dn S.2.2.1 := sub_lt hins fun i hi => hok.2 i (Or.inr hi)
    have hf1 : fr ins m o < 2 ^ dn S.2.2.1 := sub_lt hins fun i hi => by
      rw [fr_tb hok] at hi
      cases q : ins.testBit i
      · rw [q] at hi; simp at hi
      · rfl
    have hbd := vl_bd hk.2.2.1
    have w1 : wy m o < 6561 := wy_lt hok.1 (by omega) (by omega)
    have hv : ∀ i, i < 8 → -192 ≤ -(vl S.2.2.1 t o (m ||| 2 ^ i) (fr ins m o ^^^ 2 ^ i)) ∧ -(vl S.2.2.1 t o (m ||| 2 ^ i) (fr ins m o ^^^ 2 ^ i)) ≤ 192 := fun i hi => by
      have := hbd t o (m ||| 2 ^ i) (fr ins m o ^^^ 2 ^ i) (xor_lt8 (by omega) hi)
      omega
    refine v_X8_lead (by omega) (br_t (show nI 0 < nI (t + 1) from nI_lt (by omega) (by omega)) ?_)
    rw [show (0 : Int32) = nI 0 from rfl, nI_eq (by omega) (by omega), ncl (n := m) (by omega), ncl (n := o) (by omega), e.i (a := 25) (by omega), e.i (a := 25) (by omega), e.i (a := 41) (by omega), e.i (a := 41) (by omega), (hT m hm1).1, (hT o ho1).1, iI_sub, hC.2.2.2.2.2 m (by omega), hC.2.2.2.2.2 o (by omega), show (2 : Int32) = nI 2 from rfl, pk_mul, nI_add]
    refine ⟨fun c => ⟨vin (by omega), vin (by omega), ?_⟩, fun c => ⟨vin (by omega), vin (by omega), ?_⟩⟩
    · have h2 := h M e hm
      rw [c, vl_0] at h2
      exact h2
    rintro _ rfl
    rw [show th3 8 m + 2 * th3 8 o = wy m o from rfl, ncl (n := wy m o) (by omega)]
    rw [vl_s S.2.2.1 c] at h
    refine ⟨vin w1, fun u => ?_, fun u => ⟨vin w1, ?_⟩⟩
    · have loop : ∀ (k i : Nat) (M : Mem), i + k = 8 → E40 M0 M → MmI S.2.2.1 n ins M → P_X8_lead_68 G d (nI m) (nI o) (nI (fr ins m o)) (nI (t + 1)) (nI (wy m o)) (iI (mxl (fun i => -(vl S.2.2.1 t o (m ||| 2 ^ i) (fr ins m o ^^^ 2 ^ i))) (fr ins m o) i)) (nI i) M Q := by
        intro k
        induction k with
        | zero =>
          intro i M hi e hm
          have : i = 8 := by omega
          subst this
          refine v_X8_lead_68 (by omega) (br_f (by decide) ⟨vin w1, ?_⟩)
          rw [ncl (by omega)]
          rintro _ rfl
          refine h _ (e.upI rfl) fun m' o' hok' => ?_
          by_cases q : wy m' o' = wy m o
          · obtain ⟨rfl, rfl⟩ := wy_injN 8 m' o' m o hok'.1 hok.1 (sub_lt (Nat.lt_of_lt_of_le hins hp) fun i hi => hok'.2 i (Or.inl hi)) (sub_lt (Nat.lt_of_lt_of_le hins hp) fun i hi => hok'.2 i (Or.inr hi)) (show m < 256 by omega) (show o < 256 by omega) q
            rw [upI_s, show n - (pop m' + pop o') = t + 1 by omega, vl_s S.2.2.1 c]
            exact Or.inr rfl
          · rw [upI_n _ _ (by omega)]
            exact hm m' o' hok'
        | succ k ihk =>
          intro i M hi e hm
          have hi8 : i < 8 := by omega
          have ih1 := fun M' => ihk (i + 1) M' (by omega)
          refine v_X8_lead_68 (by omega) (br_t (show nI i < nI 8 from nI_lt hi8 (by decide)) ?_)
          rw [tb_and _ (by omega) i hi8, tb_or m (by omega) i hi8, tb_xor _ (by omega) i hi8, nI_1, nI_pred]
          refine ⟨fun b => ?_, fun b => ?_⟩
          · rw [mxl_n b] at ih1
            exact ih1 M e hm
          · have b' := tbf b
            obtain ⟨a1, a2, a3⟩ := hok.add b'
            obtain ⟨d', rfl⟩ : ∃ d', d = d' + 1 := ⟨d - 1, by omega⟩
            have pa := pop_add m (by omega) i hi8 a2
            rw [← a3]
            refine ih d' o (m ||| 2 ^ i) M _ (by omega) (by omega) a1 e hm fun M' e' hm' => RI.mk ?_
            have ih2 := ih1 M' e' hm'
            rw [mxl_y b', ← iI_mx (mxl_bd fun j hj => hv j (by omega)) (by have := hv i hi8; omega), ← a3, ← iI_neg] at ih2
            rintro _ rfl
            exact ih2
      exact loop 8 0 M (by omega) e hm
    · rcases hm m o hok with q | q
      · exact absurd q u
      · have h2 := h M e hm
        rw [q, show n - (pop m + pop o) = t + 1 by omega, vl_s S.2.2.1 c]
        exact h2
end DUC
