/-! the best that a set of gloves makes, by pairs -/
def del (p : Nat → Bool) (i : Nat) : Nat → Bool := fun k => p k && !(k == i)
theorem del_s (p : Nat → Bool) (i : Nat) : del p i i = false := by simp [del]
theorem del_n (p : Nat → Bool) {i k : Nat} (h : k ≠ i) : del p i k = p k := by simp [del, h]
theorem del_t {p : Nat → Bool} {i k : Nat} (h : del p i k = true) : p k = true ∧ k ≠ i := by simpa [del] using h
theorem del_comm (p : Nat → Bool) (i j : Nat) : del (del p i) j = del (del p j) i := by
  funext k
  unfold del
  cases p k <;> cases (k == i) <;> cases (k == j) <;> rfl
theorem del_id {p : Nat → Bool} {i : Nat} (h : p i = false) : del p i = p := by
  funext k
  unfold del
  by_cases c : k = i
  · subst c; rw [h]; rfl
  · simp [c]
/-- what some pairs of a set make together -/
def Mt (w : Nat → Nat → Option Nat) (p : Nat → Bool) (x : Nat) : Prop := ∀ R : (Nat → Bool) → Nat → Prop, (∀ p, R p 0) → (∀ p i j v x, p i = true → p j = true → i ≠ j → w i j = some v → R (del (del p i) j) x → R p (v + x)) → R p x
theorem Mt.nil {w : Nat → Nat → Option Nat} (p : Nat → Bool) : Mt w p 0 := fun R h0 _ => h0 p
theorem Mt.pair {w : Nat → Nat → Option Nat} (p : Nat → Bool) (i j v x : Nat) (hi : p i = true) (hj : p j = true) (hij : i ≠ j) (hw : w i j = some v) (h : Mt w (del (del p i) j) x) : Mt w p (v + x) := fun R h0 h1 => h1 p i j v x hi hj hij hw (h R h0 h1)
theorem Mt.ind {w : Nat → Nat → Option Nat} {R : (Nat → Bool) → Nat → Prop} (h0 : ∀ p, R p 0) (h1 : ∀ p i j v x, p i = true → p j = true → i ≠ j → w i j = some v → Mt w (del (del p i) j) x → R (del (del p i) j) x → R p (v + x)) {p : Nat → Bool} {x : Nat} (h : Mt w p x) : R p x :=
  (h (fun p x => Mt w p x ∧ R p x) (fun p => ⟨Mt.nil p, h0 p⟩) fun p i j v x hi hj hij hw ih => ⟨Mt.pair p i j v x hi hj hij hw ih.1, h1 p i j v x hi hj hij hw ih.1 ih.2⟩).2
def IsMx (w : Nat → Nat → Option Nat) (p : Nat → Bool) (v : Nat) : Prop := Mt w p v ∧ ∀ x, Mt w p x → x ≤ v
theorem IsMx.uniq {w : Nat → Nat → Option Nat} {p : Nat → Bool} {u v : Nat} (h : IsMx w p u) (h' : IsMx w p v) : u = v := Nat.le_antisymm (h'.2 u h.1) (h.2 v h'.1)
theorem Mt.mono {w : Nat → Nat → Option Nat} {p : Nat → Bool} {x : Nat} (h : Mt w p x) : ∀ q : Nat → Bool, (∀ k, p k = true → q k = true) → Mt w q x := by
  refine Mt.ind (R := fun p x => ∀ q : Nat → Bool, (∀ k, p k = true → q k = true) → Mt w q x) (fun p q _ => Mt.nil q) (fun p i j v x hi hj hij hw _ ih => ?_) h
  · intro q hq
    refine Mt.pair q i j v x (hq i hi) (hq j hj) hij hw (ih _ fun k hk => ?_)
    obtain ⟨h1, h2⟩ := del_t hk
    obtain ⟨h3, h4⟩ := del_t h1
    rw [del_n _ h2, del_n _ h4]
    exact hq k h3
theorem Mt.any {w : Nat → Nat → Option Nat} (hs : ∀ i j, w i j = w j i) (i : Nat) {p : Nat → Bool} {x : Nat} (h : Mt w p x) : Mt w (del p i) x ∨ ∃ j v y, j ≠ i ∧ p i = true ∧ p j = true ∧ w i j = some v ∧ Mt w (del (del p i) j) y ∧ x = v + y := by
  refine Mt.ind (R := fun p x => Mt w (del p i) x ∨ ∃ j v y, j ≠ i ∧ p i = true ∧ p j = true ∧ w i j = some v ∧ Mt w (del (del p i) j) y ∧ x = v + y) (fun p => Or.inl (Mt.nil _)) (fun p a b v x ha hb hab hw hm ih => ?_) h
  · by_cases c1 : a = i
    · subst c1
      exact Or.inr ⟨b, v, x, Ne.symm hab, ha, hb, hw, hm, rfl⟩
    by_cases c2 : b = i
    · subst c2
      refine Or.inr ⟨a, v, x, hab, hb, ha, by rw [hs]; exact hw, ?_, rfl⟩
      rw [del_comm]
      exact hm
    rcases ih with h1 | ⟨j, u, y, j1, j2, j3, j4, j5, j6⟩
    · refine Or.inl (Mt.pair _ a b v x (by rw [del_n _ c1]; exact ha) (by rw [del_n _ c2]; exact hb) hab hw ?_)
      rw [del_comm p i a, del_comm (del p a) i b]
      exact h1
    · obtain ⟨k1, k2⟩ := del_t j2
      obtain ⟨k3, k4⟩ := del_t k1
      obtain ⟨l1, l2⟩ := del_t j3
      obtain ⟨l3, l4⟩ := del_t l1
      refine Or.inr ⟨j, u, v + y, j1, k3, l3, j4, ?_, by omega⟩
      refine Mt.pair _ a b v y ?_ ?_ hab hw ?_
      · rw [del_n _ (Ne.symm l4), del_n _ c1]; exact ha
      · rw [del_n _ (Ne.symm l2), del_n _ c2]; exact hb
      · rw [del_comm (del p i) j a, del_comm p i a, del_comm (del (del p a) i) j b, del_comm (del p a) i b]
        exact j5
/-- the greatest of a base and of what there is below N -/
def fm (c : Nat → Option Nat) (base : Nat) : Nat → Nat
  | 0 => base
  | n + 1 => match c n with
    | none => fm c base n
    | some v => if fm c base n < v then v else fm c base n
theorem fm_n {c : Nat → Option Nat} {base n : Nat} (h : c n = none) : fm c base (n + 1) = fm c base n := by
  show (match c n with
    | none => fm c base n
    | some v => if fm c base n < v then v else fm c base n) = _
  rw [h]
theorem fm_s {c : Nat → Option Nat} {base n v : Nat} (h : c n = some v) : fm c base (n + 1) = if fm c base n < v then v else fm c base n := by
  show (match c n with
    | none => fm c base n
    | some v => if fm c base n < v then v else fm c base n) = _
  rw [h]
theorem fm_or (c : Nat → Option Nat) (base : Nat) : ∀ n, fm c base n = base ∨ ∃ j, j < n ∧ c j = some (fm c base n)
  | 0 => Or.inl rfl
  | n + 1 => by
    cases h : c n with
    | none =>
      rw [fm_n h]
      rcases fm_or c base n with q | ⟨j, q1, q2⟩
      · exact Or.inl q
      · exact Or.inr ⟨j, by omega, q2⟩
    | some v =>
      rw [fm_s h]
      split
      · exact Or.inr ⟨n, by omega, h⟩
      · rcases fm_or c base n with q | ⟨j, q1, q2⟩
        · exact Or.inl q
        · exact Or.inr ⟨j, by omega, q2⟩
theorem fm_ge (c : Nat → Option Nat) (base : Nat) : ∀ n, base ≤ fm c base n ∧ ∀ j v, j < n → c j = some v → v ≤ fm c base n
  | 0 => ⟨Nat.le_refl _, fun j v h => absurd h (Nat.not_lt_zero j)⟩
  | n + 1 => by
    obtain ⟨h1, h2⟩ := fm_ge c base n
    cases h : c n with
    | none =>
      rw [fm_n h]
      refine ⟨h1, fun j v hj hv => ?_⟩
      by_cases e : j = n
      · subst e; rw [h] at hv; cases hv
      · exact h2 j v (by omega) hv
    | some u =>
      rw [fm_s h]
      refine ⟨by split <;> omega, fun j v hj hv => ?_⟩
      by_cases e : j = n
      · subst e; rw [h] at hv; cases hv; split <;> omega
      · have := h2 j v (by omega) hv
        split <;> omega
theorem fm_none {c : Nat → Option Nat} {base : Nat} : ∀ n, (∀ j, j < n → c j = none) → fm c base n = base
  | 0, _ => rfl
  | n + 1, h => by rw [fm_n (h n (by omega))]; exact fm_none n fun j hj => h j (by omega)
theorem fm_ext {c c' : Nat → Option Nat} {base : Nat} : ∀ n, (∀ j, j < n → c j = c' j) → fm c base n = fm c' base n
  | 0, _ => rfl
  | n + 1, h => by
    have ih := fm_ext (base := base) n fun j hj => h j (by omega)
    show (match c n with
      | none => fm c base n
      | some v => if fm c base n < v then v else fm c base n) = (match c' n with
      | none => fm c' base n
      | some v => if fm c' base n < v then v else fm c' base n)
    rw [h n (by omega), ih]
def cand (w : Nat → Nat → Option Nat) (p : Nat → Bool) (b : Nat → Nat) (i j : Nat) : Option Nat := if p j then (w i j).map (fun v => v + b j) else none
theorem step_is {w : Nat → Nat → Option Nat} (hs : ∀ i j, w i j = w j i) {p : Nat → Bool} {i N b0 : Nat} {b : Nat → Nat} (hi : p i = true) (h0 : IsMx w (del p i) b0) (hb : ∀ j, del p i j = true → IsMx w (del (del p i) j) (b j)) (hN : ∀ j, N ≤ j → del p i j = false) : IsMx w p (fm (cand w (del p i) b i) b0 N) := by
  constructor
  · rcases fm_or (cand w (del p i) b i) b0 N with q | ⟨j, q1, q2⟩
    · rw [q]
      exact h0.1.mono p fun k hk => (del_t hk).1
    · generalize fm (cand w (del p i) b i) b0 N = F at q2 ⊢
      unfold cand at q2
      split at q2
      · rename_i hj
        cases hw : w i j with
        | none => rw [hw] at q2; cases q2
        | some v =>
          rw [hw] at q2
          cases q2
          exact Mt.pair p i j v _ hi (del_t hj).1 (Ne.symm (del_t hj).2) hw (hb j hj).1
      · cases q2
  · intro x hx
    obtain ⟨g1, g2⟩ := fm_ge (cand w (del p i) b i) b0 N
    rcases hx.any hs i with h1 | ⟨j, v, y, j1, j2, j3, j4, j5, j6⟩
    · exact Nat.le_trans (h0.2 x h1) g1
    · have hj : del p i j = true := by rw [del_n _ j1]; exact j3
      have hjN : j < N := by
        by_cases c : j < N
        · exact c
        · rw [hN j (by omega)] at hj; cases hj
      have := g2 j (v + b j) hjN (by unfold cand; rw [if_pos hj, j4]; rfl)
      have := (hb j hj).2 y j5
      omega
def bvH (w : Nat → Nat → Option Nat) : Nat → (Nat → Bool) → Nat
  | 0, _ => 0
  | i + 1, p => if p i then fm (fun j => if del p i j then (w i j).map (fun v => v + bvH w i (del (del p i) j)) else none) (bvH w i (del p i)) i else bvH w i p
theorem bvH_is {w : Nat → Nat → Option Nat} (hs : ∀ i j, w i j = w j i) : ∀ (i : Nat) (p : Nat → Bool), (∀ k, i ≤ k → p k = false) → IsMx w p (bvH w i p)
  | 0, p, h => by
    refine ⟨Mt.nil p, fun x hx => ?_⟩
    exact Mt.ind (R := fun p x => (∀ k, 0 ≤ k → p k = false) → x ≤ 0) (fun _ _ => Nat.le_refl _) (fun p i j v x hi _ _ _ _ _ h => by rw [h i (Nat.zero_le _)] at hi; cases hi) hx h
  | i + 1, p, h => by
    unfold bvH
    have hd : ∀ k, i ≤ k → del p i k = false := fun k hk => by
      by_cases c : k = i
      · subst c; exact del_s _ _
      · rw [del_n _ c]; exact h k (by omega)
    split
    · rename_i hi
      refine step_is hs (b := fun j => bvH w i (del (del p i) j)) hi (bvH_is hs i _ hd) (fun j hj => bvH_is hs i _ fun k hk => ?_) hd
      by_cases c : k = j
      · subst c; exact del_s _ _
      · rw [del_n _ c]; exact hd k hk
    · rename_i hi
      refine bvH_is hs i p fun k hk => ?_
      by_cases c : k = i
      · subst c; cases q : p k
        · rfl
        · exact absurd q hi
      · exact h k (by omega)
theorem bvH_le {w : Nat → Nat → Option Nat} {m : Nat} (hw : ∀ i j v, w i j = some v → v ≤ m) : ∀ (i : Nat) (p : Nat → Bool), bvH w i p ≤ m * i
  | 0, p => Nat.le_refl _
  | i + 1, p => by
    have e : m * (i + 1) = m * i + m := Nat.mul_succ m i
    unfold bvH
    split
    · rcases fm_or (fun j => if del p i j then (w i j).map (fun v => v + bvH w i (del (del p i) j)) else none) (bvH w i (del p i)) i with q | ⟨j, q1, q2⟩
      · rw [q]; have := bvH_le hw i (del p i); omega
      · generalize fm (fun j => if del p i j then (w i j).map (fun v => v + bvH w i (del (del p i) j)) else none) (bvH w i (del p i)) i = F at q2 ⊢
        split at q2
        · cases h : w i j with
          | none => rw [h] at q2; cases q2
          | some v =>
            rw [h] at q2
            cases q2
            have := bvH_le hw i (del (del p i) j)
            have := hw i j v h
            show v + bvH w i (del (del p i) j) ≤ m * (i + 1)
            omega
        · cases q2
    · have := bvH_le hw i p; omega
/-- of a set as bits -/
abbrev bs (m : Nat) : Nat → Bool := fun k => m.testBit k
def bB (w : Nat → Nat → Option Nat) (m : Nat) : Nat := bvH w 8 (bs m)
theorem bs_del {m i : Nat} (h : m.testBit i = true) : bs (m ^^^ 2 ^ i) = del (bs m) i := by
  funext k
  show (m ^^^ 2 ^ i).testBit k = (m.testBit k && !(k == i))
  rw [Nat.testBit_xor, Nat.testBit_two_pow]
  by_cases c : k = i
  · subst c; simp [h]
  · have : i ≠ k := Ne.symm c
    simp [c, this]
theorem tb_hi {m k n : Nat} (h : m < 2 ^ n) (hk : n ≤ k) : m.testBit k = false := Nat.testBit_lt_two_pow (Nat.lt_of_lt_of_le h (Nat.pow_le_pow_right (by decide) hk))
theorem bB_is {w : Nat → Nat → Option Nat} (hs : ∀ i j, w i j = w j i) {m : Nat} (hm : m < 256) : IsMx w (bs m) (bB w m) := bvH_is hs 8 (bs m) fun k hk => tb_hi (n := 8) hm hk
theorem xor_lt8 {m i : Nat} (hm : m < 256) (hi : i < 8) : m ^^^ 2 ^ i < 256 := Nat.xor_lt_two_pow (n := 8) hm (Nat.pow_lt_pow_right (by decide) hi)
theorem tb_lt8 {m i : Nat} (hm : m < 256) (h : m.testBit i = true) : i < 8 := by
  by_cases c : i < 8
  · exact c
  · rw [tb_hi (n := 8) hm (by omega)] at h; cases h
/-- any one of them: left over, or with another -/
theorem bB_any {w : Nat → Nat → Option Nat} (hs : ∀ i j, w i j = w j i) {m i N : Nat} (hm : m < 256) (hi : m.testBit i = true) (hN : ∀ j, N ≤ j → (m ^^^ 2 ^ i).testBit j = false) : bB w m = fm (cand w (bs (m ^^^ 2 ^ i)) (fun j => bB w (m ^^^ 2 ^ i ^^^ 2 ^ j)) i) (bB w (m ^^^ 2 ^ i)) N := by
  have hi8 := tb_lt8 hm hi
  have hm' := xor_lt8 hm hi8
  refine (bB_is hs hm).uniq ?_
  have e := bs_del hi
  rw [e]
  refine step_is hs hi ?_ (fun j hj => ?_) (fun j hj => by rw [← e]; exact hN j hj)
  · rw [← e]; exact bB_is hs hm'
  · rw [← e] at hj ⊢
    rw [← bs_del hj]
    exact bB_is hs (xor_lt8 hm' (tb_lt8 hm' hj))
theorem bB_0 {w : Nat → Nat → Option Nat} : bB w 0 = 0 := by
  have : ∀ i, bvH w i (bs 0) = 0 := by
    intro i
    induction i with
    | zero => rfl
    | succ i ih =>
      unfold bvH
      rw [show bs 0 i = false by simp [bs]]
      exact ih
  exact this 8
theorem bB_le {w : Nat → Nat → Option Nat} {b : Nat} (hw : ∀ i j v, w i j = some v → v ≤ b) (m : Nat) : bB w m ≤ b * 8 := bvH_le hw 8 _
/-! bits of small sets -/
set_option maxRecDepth 100000 in
theorem tb_and : ∀ m, m < 256 → ∀ j, j < 8 → ((nI m &&& ((1 : Int32) <<< (nI j &&& 31))) = 0 ↔ m.testBit j = false) := by decide +kernel
set_option maxRecDepth 100000 in
theorem tb_xor : ∀ m, m < 256 → ∀ j, j < 8 → (nI m ^^^ ((1 : Int32) <<< (nI j &&& 31))) = nI (m ^^^ 2 ^ j) := by decide +kernel
set_option maxRecDepth 100000 in
theorem tb_or : ∀ m, m < 256 → ∀ j, j < 8 → (nI m ||| ((1 : Int32) <<< (nI j &&& 31))) = nI (m ||| 2 ^ j) := by decide +kernel
set_option maxRecDepth 100000 in
theorem tb_del : ∀ m, m < 256 → ∀ j, j < 8 → (nI m &&& (((1 : Int32) <<< (nI j &&& 31)) ^^^ (-1))) = nI (if m.testBit j then m ^^^ 2 ^ j else m) := by decide +kernel
set_option maxRecDepth 100000 in
theorem tb_sh1 : ∀ m, m < 256 → ∀ j, j < 8 → (((nI m >>> (nI j &&& 31)) &&& 1) = 1 ↔ m.testBit j = true) := by decide +kernel
set_option maxRecDepth 100000 in
theorem tb_sh0 : ∀ m, m < 256 → ∀ j, j < 8 → (((nI m >>> (nI j &&& 31)) &&& 1) = 0 ↔ m.testBit j = false) := by decide +kernel
set_option maxRecDepth 100000 in
theorem tb_xlt : ∀ m, m < 256 → ∀ j, j < 8 → m.testBit j = true → m ^^^ 2 ^ j < m := by decide +kernel
set_option maxRecDepth 100000 in
theorem tb_set : ∀ i, i < 8 → ∀ m, m < 2 ^ i → m ||| 2 ^ i = 2 ^ i + m ∧ (2 ^ i + m).testBit i = true ∧ (2 ^ i + m) ^^^ 2 ^ i = m := by decide +kernel
theorem tb_ex : ∀ m, m < 256 → 0 < m → ∃ i, i < 8 ∧ m.testBit i = true ∧ ∀ k, k < i → m.testBit k = false := by decide +kernel
theorem nmx {a b : Nat} (ha : a < 2 ^ 31) (hb : b < 2 ^ 31) : (if nI a < nI b then nI b else nI a) = nI (if a < b then b else a) := by
  by_cases c : a < b
  · rw [if_pos c, if_pos (nI_lt c hb)]
  · rw [if_neg c, if_neg (nI_nlt (by omega) ha)]
