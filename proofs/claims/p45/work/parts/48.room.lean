/-! promise 27: what to keep so that the loss of any one harms least -/
section ROO
variable {G : Glob} {M : Mem} {Q : Option Value → Mem → Prop} {n : Nat} {S : St} {D : Dr}
/-- the least of what there is below N -/
def omn (c : Nat → Option Nat) : Nat → Option Nat
  | 0 => none
  | j + 1 => match c j with
    | none => omn c j
    | some v => match omn c j with
      | none => some v
      | some m => some (if v < m then v else m)
theorem omn_n {c : Nat → Option Nat} {j : Nat} (h : c j = none) : omn c (j + 1) = omn c j := by
  show (match c j with
    | none => omn c j
    | some v => match omn c j with
      | none => some v
      | some m => some (if v < m then v else m)) = _
  rw [h]
theorem omn_s {c : Nat → Option Nat} {j v : Nat} (h : c j = some v) : omn c (j + 1) = match omn c j with
      | none => some v
      | some m => some (if v < m then v else m) := by
  show (match c j with
    | none => omn c j
    | some v => match omn c j with
      | none => some v
      | some m => some (if v < m then v else m)) = _
  rw [h]
theorem omn_lt {c : Nat → Option Nat} {B : Nat} (hc : ∀ j v, c j = some v → v < B) : ∀ (j m : Nat), omn c j = some m → m < B
  | 0, m, h => by cases h
  | j + 1, m, h => by
    cases q : c j with
    | none => rw [omn_n q] at h; exact omn_lt hc j m h
    | some v =>
      rw [omn_s q] at h
      have hv := hc j v q
      cases q2 : omn c j with
      | none => rw [q2] at h; cases h; exact hv
      | some u =>
        rw [q2] at h
        have hu := omn_lt hc j u q2
        simp only [Option.some.injEq] at h
        split at h <;> omega
def wlC (D : Dr) (set i : Nat) : Option Nat := if set.testBit i = true ∧ ¬ gK (glD D i) = 3 then some (best D (set ^^^ 2 ^ i)) else none
def worst (D : Dr) (set : Nat) : Nat := (omn (wlC D set) (dn D)).getD (best D set)
theorem wlC_lt (hk : DOk D) {set j v : Nat} (h : wlC D set j = some v) : v < 1000 := by
  unfold wlC at h
  split at h
  · cases h
    have := best_le hk (set ^^^ 2 ^ j)
    show best D (set ^^^ 2 ^ j) < 1000
    omega
  · cases h
theorem worst_lt (hk : DOk D) (set : Nat) : worst D set < 1000 := by
  unfold worst
  cases q : omn (wlC D set) (dn D) with
  | none => have := best_le hk set; show best D set < 1000; omega
  | some m => exact omn_lt (fun j v h => wlC_lt hk h) _ _ q
theorem k3 {k : Nat} (h : k < 6) : nI k = 3 ↔ k = 3 := by rw [show (3 : Int32) = nI 3 from rfl, nI_eq (by omega) (by omega)]
theorem aw_loop (hk : SOk S) (hC : RC S M) (hT : TbC S.2.2.1 (2 ^ dn S.2.2.1) M) {set : Nat} (hset : set < 2 ^ dn S.2.2.1) (h : Q (some (.int (nI (worst S.2.2.1 set)))) M) :
    ∀ (k j : Nat), j + k = dn S.2.2.1 → P_X6_afterWorstLoss_10 G (nI set) (nI ((omn (wlC S.2.2.1 set) j).getD (best S.2.2.1 set))) (nI j) M Q := by
  have h8 := hk.2.2.1.1
  have hp := p2_257 h8
  intro k
  induction k with
  | zero =>
    intro j hj
    have : j = dn S.2.2.1 := by omega
    subst this
    refine v_X6_afterWorstLoss_10 ?_
    rw [hC.nz]
    exact br_f (nI_nlt (Nat.le_refl _) (by omega)) h
  | succ k ih =>
    intro j hj
    have hj2 : j < dn S.2.2.1 := by omega
    have ih1 := ih (j + 1) (by omega)
    have hx : set ^^^ 2 ^ j < 2 ^ dn S.2.2.1 := Nat.xor_lt_two_pow hset (Nat.pow_lt_pow_right (by decide) hj2)
    refine v_X6_afterWorstLoss_10 ?_
    rw [hC.nz, nI_1 j, tb_and set (by omega) j (by omega), tb_xor _ (by omega) j (by omega), ncl (by omega), ncl (by omega), (hT _ hx).1, (hC.gl hj2).1, k3 (glD_ok hk.2.2.1 hj2).1]
    refine br_t (nI_lt hj2 (by omega)) ⟨fun c => ?_, fun c => ⟨vin (by omega), fun d => ?_, fun d => ⟨vin (by omega), ?_⟩⟩⟩
    · rw [omn_n (by unfold wlC; rw [c]; rfl)] at ih1
      exact ih1
    · rw [omn_n (by unfold wlC; rw [if_neg (fun q => q.2 d)])] at ih1
      exact ih1
    · have c' : set.testBit j = true := by
        cases q : set.testBit j
        · exact absurd q c
        · rfl
      have hs : wlC S.2.2.1 set j = some (best S.2.2.1 (set ^^^ 2 ^ j)) := if_pos ⟨c', d⟩
      have hb := best_le hk.2.2.1 (set ^^^ 2 ^ j)
      have hb2 := best_le hk.2.2.1 set
      have bd := best_del S.2.2.1 (m := set) (by omega) c'
      rw [omn_s hs] at ih1
      rintro _ rfl
      cases q : omn (wlC S.2.2.1 set) j with
      | none =>
        rw [q] at ih1
        show P_X6_afterWorstLoss_10 G (nI set) (if nI (best S.2.2.1 (set ^^^ 2 ^ j)) < nI (best S.2.2.1 set) then nI (best S.2.2.1 (set ^^^ 2 ^ j)) else nI (best S.2.2.1 set)) (nI (j + 1)) M Q
        have e : (if nI (best S.2.2.1 (set ^^^ 2 ^ j)) < nI (best S.2.2.1 set) then nI (best S.2.2.1 (set ^^^ 2 ^ j)) else nI (best S.2.2.1 set)) = nI (best S.2.2.1 (set ^^^ 2 ^ j)) := by
          by_cases c2 : best S.2.2.1 (set ^^^ 2 ^ j) < best S.2.2.1 set
          · rw [if_pos (nI_lt c2 (by omega))]
          · rw [if_neg (nI_nlt (by omega) (by omega)), show best S.2.2.1 set = best S.2.2.1 (set ^^^ 2 ^ j) by omega]
        rw [e]
        exact ih1
      | some m =>
        have hm := omn_lt (fun j v h => wlC_lt hk.2.2.1 h) j m q
        rw [q] at ih1
        show P_X6_afterWorstLoss_10 G (nI set) (if nI (best S.2.2.1 (set ^^^ 2 ^ j)) < nI m then nI (best S.2.2.1 (set ^^^ 2 ^ j)) else nI m) (nI (j + 1)) M Q
        have e : (if nI (best S.2.2.1 (set ^^^ 2 ^ j)) < nI m then nI (best S.2.2.1 (set ^^^ 2 ^ j)) else nI m) = nI (if best S.2.2.1 (set ^^^ 2 ^ j) < m then best S.2.2.1 (set ^^^ 2 ^ j) else m) := by
          by_cases c2 : best S.2.2.1 (set ^^^ 2 ^ j) < m
          · rw [if_pos (nI_lt c2 (by omega)), if_pos c2]
          · rw [if_neg (nI_nlt (by omega) (by omega)), if_neg c2]
        rw [e]
        exact ih1
theorem aw_ok (hk : SOk S) (hC : RC S M) (hT : TbC S.2.2.1 (2 ^ dn S.2.2.1) M) {set : Nat} (hset : set < 2 ^ dn S.2.2.1) (h : Q (some (.int (nI (worst S.2.2.1 set)))) M) : C_X6_afterWorstLoss G (nI set) M Q := by
  have h8 := hk.2.2.1.1
  have hp := p2_257 h8
  refine v_X6_afterWorstLoss ⟨vin (by omega), ?_⟩
  rw [ncl (by omega), (hT _ hset).1]
  rintro _ rfl
  exact aw_loop hk hC hT hset h (dn S.2.2.1) 0 (by omega)
abbrev bet (D : Dr) (a b : Nat) : Prop := worst D b < worst D a ∨ (worst D a = worst D b ∧ pop a < pop b)
abbrev okS (D : Dr) (k : Nat) : Prop := (nI k &&& (nI (sIn D 0) ^^^ (-1 : Int32))) = 0 ∧ pop k ≤ drm D
/-- the safest of the sets below k -/
def sfs (D : Dr) : Nat → Nat
  | 0 => 0
  | k + 1 => if okS D k ∧ bet D k (sfs D k) then k else sfs D k
theorem sfs_y {k : Nat} (h : okS D k) (h2 : bet D k (sfs D k)) : sfs D (k + 1) = k := if_pos ⟨h, h2⟩
theorem sfs_n {k : Nat} (h : ¬ okS D k) : sfs D (k + 1) = sfs D k := if_neg fun q => h q.1
theorem sfs_n2 {k : Nat} (h : ¬ bet D k (sfs D k)) : sfs D (k + 1) = sfs D k := if_neg fun q => h q.2
theorem sfs_1 : sfs D 1 = 0 := by
  show (if okS D 0 ∧ bet D 0 (sfs D 0) then 0 else 0) = 0
  split <;> rfl
theorem sfs_lt : ∀ k, sfs D k < k ∨ sfs D k = 0
  | 0 => Or.inr rfl
  | k + 1 => by
    have := sfs_lt k
    by_cases c : okS D k ∧ bet D k (sfs D k)
    · rw [sfs_y c.1 c.2]; omega
    · rw [show sfs D (k + 1) = sfs D k from if_neg c]; omega
theorem rm_lt {m : Nat} (hk : DOk D) : nI (drm D) < nI (pop m) ↔ drm D < pop m := nI_ltI (by have := hk.2.1; omega) (by have := pop_le m; omega)
theorem safer_ok (hk : SOk S) (hC : RC S M) (hT : TbC S.2.2.1 (2 ^ dn S.2.2.1) M) {a b : Nat} (ha : a < 2 ^ dn S.2.2.1) (hb : b < 2 ^ dn S.2.2.1) (h1 : bet S.2.2.1 a b → Q (some (.int 1)) M) (h0 : ¬ bet S.2.2.1 a b → Q (some (.int 0)) M) : C_X6_isSafer G (nI a) (nI b) M Q := by
  have h8 := hk.2.2.1.1
  have hp := p2_257 h8
  have la := worst_lt hk.2.2.1 a
  have lb := worst_lt hk.2.2.1 b
  have pa := pop_le a
  have pb := pop_le b
  refine v_X6_isSafer (aw_ok hk hC hT ha (RI.mk (aw_ok hk hC hT hb (RI.mk ?_))))
  rw [nI_eq (by omega) (by omega), nI_ltI (by omega) (by omega)]
  refine ⟨fun c => bitc_ok (by omega) (RI.mk (bitc_ok (by omega) (RI.mk ?_))), fun c => ⟨fun d => h1 (Or.inl d), fun d => h0 fun q => by unfold bet at q; omega⟩⟩
  rw [nI_ltI (by omega) (by omega)]
  exact ⟨fun d => h1 (Or.inr ⟨c, d⟩), fun d => h0 fun q => by unfold bet at q; omega⟩
theorem sf_loop (hk : SOk S) (hC : RC S M) (hT : TbC S.2.2.1 (2 ^ dn S.2.2.1) M) (h : Q (some (.int (nI (sfs S.2.2.1 (2 ^ dn S.2.2.1))))) M) :
    ∀ (k j : Nat), j + k = 2 ^ dn S.2.2.1 → P_X6_safestSet_11 G (nI (sIn S.2.2.1 0)) (nI (sfs S.2.2.1 j)) (nI j) M Q := by
  have h8 := hk.2.2.1.1
  have hp := p2_257 h8
  intro k
  induction k with
  | zero =>
    intro j hj
    have : j = 2 ^ dn S.2.2.1 := by omega
    subst this
    refine v_X6_safestSet_11 ?_
    rw [hC.nz, sh1n h8]
    exact br_f (nI_nlt (Nat.le_refl _) (by omega)) h
  | succ k ih =>
    intro j hj
    have ih1 := ih (j + 1) (by omega)
    have hl := sfs_lt (D := S.2.2.1) j
    have pp := pop_le j
    refine v_X6_safestSet_11 ?_
    rw [hC.nz, sh1n h8, nI_1 j]
    refine br_t (nI_lt (by omega) (by omega)) ⟨fun c => bitc_ok (by omega) (RI.mk ?_), fun c => ?_⟩
    · rw [hC.2.2.1.2.1, rm_lt hk.2.2.1]
      refine ⟨fun d => ?_, fun d => ?_⟩
      · rw [sfs_n (fun q => by have := q.2; omega)] at ih1; exact ih1
      · have hok : okS S.2.2.1 j := ⟨c, by omega⟩
        refine safer_ok hk hC hT (by omega) (by omega) (fun b => RI.mk (br_f (by decide) ?_)) fun b => RI.mk (br_t rfl ?_)
        · rw [sfs_y hok b] at ih1; exact ih1
        · rw [sfs_n2 b] at ih1; exact ih1
    · rw [sfs_n (fun q => c q.1)] at ih1; exact ih1
theorem dif_gt {a b : Nat} (ha : a < 1000) (hb : b < 1000) : (0 : Int32) < nI a - nI b ↔ b < a := by
  rw [Int32.lt_iff_toInt_lt, pk_sub_toInt (by omega) (by omega), show (0 : Int32).toInt = 0 by decide]
  omega
theorem dif_0 {a b : Nat} (ha : a < 1000) (hb : b < 1000) : nI a - nI b = 0 ↔ a = b := by
  rw [← Int32.toInt_inj, pk_sub_toInt (by omega) (by omega), show (0 : Int32).toInt = 0 by decide]
  omega
end ROO
