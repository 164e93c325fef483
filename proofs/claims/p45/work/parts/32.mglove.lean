/-! the reference's gloves -/
def GlM (M : Mem) (i : Nat) (x : Gl) : Prop := M.1 82 i = nI (gK x) ∧ M.1 83 i = nI (gS x) ∧ M.1 84 i = nI (gH x) ∧ M.1 85 i = nI (gW x) ∧ M.1 87 i = nI (gR x)
def gmask (x : Gl) : Nat := if isN (gK x) 2 then 3 else if gH x = 0 then 1 else 2
theorem mp_mask {x y : Gl} (hx : gH x < 2) (hy : gH y < 2) : mp x y = !(gmask x == gmask y && gmask x != 3) := by
  unfold mp goN gmask
  have hx' : gH x = 0 ∨ gH x = 1 := by omega
  have hy' : gH y = 0 ∨ gH y = 1 := by omega
  cases isN (gK x) 2 <;> cases isN (gK y) 2 <;> rcases hx' with e | e <;> rcases hy' with e2 | e2 <;> rw [e, e2] <;> rfl
section GLM
variable {G : Glob} {M : Mem} {Q : Option Value → Mem → Prop} {i j : Nat} {x y : Gl}
set_option maxRecDepth 100000 in
theorem ap_tab : ∀ s, s < 10 → ∀ t, t < 10 → (nI s < nI t ↔ s < t) ∧ (s < t → nI t - nI s = nI (apN s t)) ∧ (¬ s < t → nI s - nI t = nI (apN s t)) := by decide +kernel
set_option maxRecDepth 100000 in
theorem less_tab : ∀ u, u < 26 → ∀ p, p < 10 → ((nI u - 2 * nI p < 0) ↔ u < 2 * p) ∧ (¬ u < 2 * p → nI u - 2 * nI p = nI (u - 2 * p)) := by decide +kernel
end GLM
