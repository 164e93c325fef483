/-! promise 33, the law -/
section DUL
variable {G : Glob} {M : Mem} {Q : Option Value → Mem → Prop} {S : St} {D : Dr} {n ins N last w c : Nat}
abbrev E94 : Mem → Mem → Prop := Eqv (fun a _ => a = 94)
/-- what is reckoned so far: all with more than T taken, those with T below C -/
def WI (D : Dr) (ins N last : Nat) (M : Mem) (T C : Nat) : Prop := ∀ c, c < 3 ^ dn D → (∀ i, (gn (dn D) c).testBit i = true → ins.testBit i = true) → (T < tkn (dn D) c ∧ tkn (dn D) c ≤ last) ∨ (tkn (dn D) c = T ∧ c < C) → M.1 94 c = iI (FV D ins N c)
theorem sgn_bd {w : Nat} {x : Int} (h : -192 ≤ x ∧ x ≤ 192) : -192 ≤ sgn w x ∧ sgn w x ≤ 192 := by
  unfold sgn
  split <;> omega
theorem fr_n (hn : n ≤ 8) {m o : Nat} (hi : ins < 2 ^ n) (h : Okp ins m o) : fr ins m o < 2 ^ n := sub_lt hi fun i q => by
  rw [fr_tb h] at q
  cases z : ins.testBit i
  · rw [z] at q; simp at q
  · rfl
end DUL
