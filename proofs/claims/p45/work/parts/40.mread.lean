/-! the reference reads -/
section RDM
variable {G : Glob} {M : Mem} {Q : Option Value → Mem → Prop} {r n p : Nat} {s : RSt}
def cho (f : Nat → Int32) (n p : Nat) : Int32 := if p < n then f p else -9
def DrfM (M : Mem) (i : Nat) (x : Gs) : Prop := M.1 78 i = nI x.1 ∧ M.1 79 i = nI x.2.1 ∧ M.1 80 i = nI x.2.2.1 ∧ M.1 81 i = nI x.2.2.2
theorem RowsM.pl {s : RSt} {M M' : Mem} {P : Nat → Nat → Prop} (hs : RowsM 4 60 76 75 s M) (e : Eqv P M M') (hp : ∀ a k, P a k → a ≠ 76 ∧ a ≠ 75) : RowsM 4 60 76 75 s M' := hs.eqv e hp
theorem fg_cho {f : Nat → Int32} {n p lo hi : Nat} (hlh : lo ≤ hi) (hl : hi ≤ 9) : (fgo f n p lo hi = none ∧ (cho f n p < nI (48 + lo) ∨ nI (48 + hi) < cho f n p)) ∨ (∃ v, lo ≤ v ∧ v ≤ hi ∧ p < n ∧ cho f n p = nI (48 + v) ∧ fgo f n p lo hi = some v) := by
  unfold fgo cho
  by_cases c : p < n
  · rw [if_pos c, if_pos c]
    rcases fg_or (f p) hlh hl with ⟨a, b, d⟩ | ⟨v, a, b, d, e⟩
    · exact Or.inl ⟨a, d⟩
    · exact Or.inr ⟨v, a, b, c, d, e⟩
  · rw [if_neg c, if_neg c]
    refine Or.inl ⟨rfl, Or.inl ?_⟩
    rw [Int32.lt_iff_toInt_lt, nI_toInt (by omega), show (-9 : Int32).toInt = -9 by decide]
    omega
/-- where readGlove writes -/
def PG (z : Nat) (a k : Nat) : Prop := (a = 71 ∧ (k = 11 ∨ k = 17 ∨ k = 18)) ∨ (78 ≤ a ∧ a ≤ 81 ∧ k = z)
/-- where read writes -/
def PR (a k : Nat) : Prop := (a = 71 ∧ (k = 10 ∨ k = 11 ∨ k = 16 ∨ k = 17 ∨ k = 18)) ∨ (78 ≤ a ∧ a ≤ 81)
end RDM
