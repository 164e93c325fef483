/-! one part of the state changed; findings, asked -/
theorem RC.sR {S : St} {s : RSt} {M M' : Mem} {P : Nat → Nat → Prop} (hk : SOk S) (h : RC S M) (e : Eqv P M M') (hp : ∀ a k, P a k → a = 3 ∨ (45 ≤ a ∧ a ≤ 50)) (hn : RowsC 1 6 40 0 3 45 s M') : RC (s, S.2) M' := by
  obtain ⟨a, b, c, d, f, g⟩ := h
  refine ⟨hn, b.eqv e (fun a k q => ?_), c.eqv hk.2.2.1.1 e (fun a k q => ?_), d.eqv e (fun a k q => ?_), f.eqv e (fun a k q => ?_), g.eqv e (fun k q => ?_)⟩ <;> (have := hp _ _ q; omega)
theorem RC.sT {S : St} {s : RSt} {M M' : Mem} {P : Nat → Nat → Prop} (hk : SOk S) (h : RC S M) (e : Eqv P M M') (hp : ∀ a k, P a k → a = 6 ∨ (51 ≤ a ∧ a ≤ 54)) (hn : RowsC 4 4 60 32 6 51 s M') : RC (S.1, s, S.2.2) M' := by
  obtain ⟨a, b, c, d, f, g⟩ := h
  refine ⟨a.eqv e (fun a k q => ?_), hn, c.eqv hk.2.2.1.1 e (fun a k q => ?_), d.eqv e (fun a k q => ?_), f.eqv e (fun a k q => ?_), g.eqv e (fun k q => ?_)⟩ <;> (have := hp _ _ q; omega)
theorem RC.sD {S : St} {D : Dr} {M M' : Mem} {P : Nat → Nat → Prop} (h : RC S M) (e : Eqv P M M') (hp : ∀ a k, P a k → a = 12 ∨ a = 14 ∨ a = 15 ∨ (55 ≤ a ∧ a ≤ 62)) (hn : DrC D M') : RC (S.1, S.2.1, D, S.2.2.2) M' := by
  obtain ⟨a, b, c, d, f, g⟩ := h
  refine ⟨a.eqv e (fun a k q => ?_), b.eqv e (fun a k q => ?_), hn, d.eqv e (fun a k q => ?_), f.eqv e (fun a k q => ?_), g.eqv e (fun k q => ?_)⟩ <;> (have := hp _ _ q; omega)
theorem RC.sK {S : St} {K : Ke} {M M' : Mem} {P : Nat → Nat → Prop} (hk : SOk S) (h : RC S M) (e : Eqv P M M') (hp : ∀ a k, P a k → 17 ≤ a ∧ a ≤ 22) (hn : KeC K M') : RC (S.1, S.2.1, S.2.2.1, K, S.2.2.2.2) M' := by
  obtain ⟨a, b, c, d, f, g⟩ := h
  refine ⟨a.eqv e (fun a k q => ?_), b.eqv e (fun a k q => ?_), c.eqv hk.2.2.1.1 e (fun a k q => ?_), hn, f.eqv e (fun a k q => ?_), g.eqv e (fun k q => ?_)⟩ <;> (have := hp _ _ q; omega)
theorem RC.sO {S : St} {o : To} {M M' : Mem} {P : Nat → Nat → Prop} (hk : SOk S) (h : RC S M) (e : Eqv P M M') (hp : ∀ a k, P a k → (a = 0 ∧ 11 ≤ k) ∨ a = 44 ∨ a = 42) (hn : ToC o M') : RC (S.1, S.2.1, S.2.2.1, S.2.2.2.1, o) M' := by
  obtain ⟨a, b, c, d, f, g⟩ := h
  refine ⟨a.eqv e (fun a k q => ?_), b.eqv e (fun a k q => ?_), c.eqv hk.2.2.1.1 e (fun a k q => ?_), d.eqv e (fun a k q => ?_), hn, g.eqv e (fun k q => ?_)⟩ <;> (have := hp _ _ q; omega)
theorem RM.sR {S : St} {s : RSt} {M M' : Mem} {P : Nat → Nat → Prop} (h : RM S M) (e : Eqv P M M') (hp : ∀ a k, P a k → a = 74 ∨ a = 73 ∨ a = 77) (hn : RowsM 6 40 74 73 s M') : RM (s, S.2) M' := by
  obtain ⟨a, b, c, d, f⟩ := h
  refine ⟨hn, b.eqv e (fun a k q => ?_), c.eqv e (fun a k q => ?_), d.eqv e (fun a k q => ?_), f.eqv e (fun a k q => ?_)⟩ <;> (have := hp _ _ q; omega)
theorem RM.sT {S : St} {s : RSt} {M M' : Mem} {P : Nat → Nat → Prop} (h : RM S M) (e : Eqv P M M') (hp : ∀ a k, P a k → a = 76 ∨ a = 75) (hn : RowsM 4 60 76 75 s M') : RM (S.1, s, S.2.2) M' := by
  obtain ⟨a, b, c, d, f⟩ := h
  refine ⟨a.eqv e (fun a k q => ?_), hn, c.eqv e (fun a k q => ?_), d.eqv e (fun a k q => ?_), f.eqv e (fun a k q => ?_)⟩ <;> (have := hp _ _ q; omega)
theorem RM.sD {S : St} {D : Dr} {M M' : Mem} {P : Nat → Nat → Prop} (h : RM S M) (e : Eqv P M M') (hp : ∀ a k, P a k → (a = 71 ∧ 19 ≤ k) ∨ (82 ≤ a ∧ a ≤ 88)) (hn : DrM D M') : RM (S.1, S.2.1, D, S.2.2.2) M' := by
  obtain ⟨a, b, c, d, f⟩ := h
  refine ⟨a.eqv e (fun a k q => ?_), b.eqv e (fun a k q => ?_), hn, d.eqv e (fun a k q => ?_), f.eqv e (fun a k q => ?_)⟩ <;> (have := hp _ _ q; omega)
theorem RM.sK {S : St} {K : Ke} {M M' : Mem} {P : Nat → Nat → Prop} (h : RM S M) (e : Eqv P M M') (hp : ∀ a k, P a k → 89 ≤ a ∧ a ≤ 90) (hn : KeM K M') : RM (S.1, S.2.1, S.2.2.1, K, S.2.2.2.2) M' := by
  obtain ⟨a, b, c, d, f⟩ := h
  refine ⟨a.eqv e (fun a k q => ?_), b.eqv e (fun a k q => ?_), c.eqv e (fun a k q => ?_), hn, f.eqv e (fun a k q => ?_)⟩ <;> (have := hp _ _ q; omega)
theorem RM.sO {S : St} {o : To} {M M' : Mem} {P : Nat → Nat → Prop} (h : RM S M) (e : Eqv P M M') (hp : ∀ a k, P a k → (a = 71 ∧ k ≤ 3) ∨ a = 72) (hn : ToM o M') : RM (S.1, S.2.1, S.2.2.1, S.2.2.2.1, o) M' := by
  obtain ⟨a, b, c, d, f⟩ := h
  refine ⟨a.eqv e (fun a k q => ?_), b.eqv e (fun a k q => ?_), c.eqv e (fun a k q => ?_), d.eqv e (fun a k q => ?_), hn⟩ <;> (have := hp _ _ q; omega)
/-- a finding -/
def sF (S : St) (f : Nat) : St := (S.1, S.2.1, S.2.2.1, S.2.2.2.1, fu S.2.2.2.2.1 f (S.2.2.2.2.1 f + 1), nI f, S.2.2.2.2.2.2)
/-- asked -/
def sA (S : St) (v : Int32) : St := (S.1, S.2.1, S.2.2.1, S.2.2.2.1, S.2.2.2.2.1, S.2.2.2.2.2.1, v, S.2.2.2.2.2.2.2)
theorem SOk.sF {S : St} (h : SOk S) (f : Nat) : SOk (sF S f) := h
theorem SOk.sA {S : St} (h : SOk S) (v : Int32) : SOk (sA S v) := h
section TOLD
variable {G : Glob} {M : Mem} {Q : Option Value → Mem → Prop} {S : St}
theorem c_finds (hk : SOk S) (hC : RC S M) {f : Nat} (h1 : 1 ≤ f) (h5 : f ≤ 5) (h : ∀ M', RC (sF S f) M' → EqC M M' → Q (some (.int (-3))) M') : C_X10_finds G (nI f) M Q := by
  refine v_X10_finds ?_
  rintro _ rfl
  refine br_f (show ¬ nI f < nI 1 from nI_nlt h1 (by omega)) (br_f (show ¬ nI 5 < nI f from nI_nlt h5 (by omega)) ⟨vin (by omega), vin (by omega), ?_⟩)
  rintro _ rfl
  rw [ncl (by omega), upI_n _ _ (by omega)]
  have e : Eqv (fun a k => (a = 0 ∧ k = 11) ∨ a = 44) M (upI (upI M 0 11 (nI f)) 44 f (M.1 44 f + 1)) := (Eqv.rf.upI (Or.inl ⟨rfl, rfl⟩)).upI (Or.inr rfl)
  obtain ⟨o1, o2, o3, o4, o5⟩ := hC.2.2.2.2.1
  refine h _ (hC.sO hk e (fun a k q => by omega) ⟨fun g g1 g5 => ?_, by rw [upI_n _ _ (by omega), upI_s], by rw [upI_n _ _ (by omega), upI_n _ _ (by omega)]; exact o3, o4, o5⟩) (e.mono fun a k q => by omega)
  show _ = fu S.2.2.2.2.1 f (S.2.2.2.2.1 f + 1) g
  by_cases hg : g = f
  · subst hg; rw [upI_s, fu_s, o1 g g1 g5]
  · rw [upI_n _ _ (by omega), fu_n _ _ hg, upI_n _ _ (by omega)]; exact o1 g g1 g5
theorem RC.asked (hk : SOk S) (hC : RC S M) (v : Int32) : RC (sA S v) (upI M 0 12 v) := by
  have e : Eqv (fun a k => a = 0 ∧ k = 12) M (upI M 0 12 v) := Eqv.rf.upI ⟨rfl, rfl⟩
  obtain ⟨o1, o2, o3, o4, o5⟩ := hC.2.2.2.2.1
  exact hC.sO hk e (fun a k q => by omega) ⟨fun g g1 g5 => by rw [upI_n _ _ (by omega)]; exact o1 g g1 g5, by rw [upI_n _ _ (by omega)]; exact o2, upI_s _ _ _ _, o4, o5⟩
theorem RM.asked (hM : RM S M) (v : Int32) : RM (sA S v) (upI M 71 0 v) := by
  have e : Eqv (fun a k => a = 71 ∧ k = 0) M (upI M 71 0 v) := Eqv.rf.upI ⟨rfl, rfl⟩
  obtain ⟨o1, o2, o3, o4, o5⟩ := hM.2.2.2.2
  exact hM.sO e (fun a k q => by omega) ⟨fun g g1 g5 => by rw [upI_n _ _ (by omega)]; exact o1 g g1 g5, by rw [upI_n _ _ (by omega)]; exact o2, upI_s _ _ _ _, o4, o5⟩
theorem c_tells (hk : SOk S) (hC : RC S M) {v : Int32} (h : ∀ M', RC (sA S v) M' → EqC M M' → Q (some (.int 1)) M') : C_X10_tells G v M Q := by
  refine v_X10_tells ?_
  rintro _ rfl
  exact h _ (hC.asked hk v) (Eqv.rf.upI (by omega))
theorem EqC.rf : EqC M M := Eqv.rf
theorem nlt_le {x : Int32} {n : Nat} (hn : n + 1 < 2 ^ 31) : nI n < x ↔ nI (n + 1) ≤ x := by
  rw [Int32.lt_iff_toInt_lt, Int32.le_iff_toInt_le, nI_toInt (by omega), nI_toInt hn]
  omega
/-- a number is below 0, n or more, or one of 0 .. n-1 -/
theorem ix3 (x : Int32) {n : Nat} (hn : n < 2 ^ 31) : (x < 0 ∨ nI n ≤ x) ∨ ∃ j : Nat, j < n ∧ x = nI j := by
  rcases pk_ix x hn with h | h | h
  · exact Or.inl (Or.inl h)
  · exact Or.inl (Or.inr h)
  · exact Or.inr h
theorem RPk.R : RPk 1 6 40 0 3 45 := Or.inl ⟨rfl, rfl, rfl, rfl, rfl, rfl⟩
theorem RPk.T : RPk 4 4 60 32 6 51 := Or.inr ⟨rfl, rfl, rfl, rfl, rfl, rfl⟩
end TOLD
