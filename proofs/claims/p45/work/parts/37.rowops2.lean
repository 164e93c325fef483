section RR2
variable {G : Glob} {M : Mem} {Q : Option Value → Mem → Prop} {S : St} {th N mx fl zb rb r : Nat} {s : RSt}
theorem c_refPl_n {x y : Int32} (hx : x < 0 ∨ nI 6 ≤ x) (h : Q (some (.int (-1))) M) : C_X10_refusedPlace G x y M Q := v_X10_refusedPlace (c_refRow_n hx (RI.mk (br_f (by decide) h)))
theorem c_refPl_m (hk : SOk S) (hC : RC S M) (hr : r < 6) (hn : S.1.1 r = none) {y : Int32} (h : ∀ M', RC (sF S 1) M' → EqC M M' → Q (some (.int (-3))) M') : C_X10_refusedPlace G (nI r) y M Q :=
  v_X10_refusedPlace (c_refRow_m hk hC hr hn fun M1 h1 e1 => RI.mk (br_f (by decide) (h M1 h1 e1)))
theorem c_refPl_b (hk : SOk S) (hC : RC S M) (hr : r < 6) {n : Nat} (hn : S.1.1 r = some n) {y : Int32} (hy : y < 0 ∨ nI n ≤ y) (h : ∀ M', RC (sF S 2) M' → EqC M M' → Q (some (.int (-3))) M') : C_X10_refusedPlace G (nI r) y M Q :=
  v_X10_refusedPlace (c_refRow_y hk hC hr hn (RI.mk (br_t rfl (holds_no RPk.R hC.1 hr (by rw [hn]; exact hy) (RI.mk (br_t rfl (c_finds (f := 2) hk hC (by decide) (by decide) fun M1 hC1 e1 => RI.mk (h M1 hC1 e1))))))))
theorem c_refPl_y (hk : SOk S) (hC : RC S M) (hr : r < 6) {n i : Nat} (hn : S.1.1 r = some n) (hi : i < n) (h : Q (some (.int 0)) M) : C_X10_refusedPlace G (nI r) (nI i) M Q :=
  v_X10_refusedPlace (c_refRow_y hk hC hr hn (RI.mk (br_t rfl (holds_yes RPk.R hC.1 hk.1 hr hn hi (RI.mk (br_f (by decide) h))))))
theorem mrow (hM : RM S M) (hr : r < 6) : M.1 74 r = oS (S.1.1 r) := (hM.1 r hr).1
theorem mtxt (hM : RM S M) (hr : r < 4) : M.1 76 r = oS (S.2.1.1 r) := (hM.2.1 r hr).1
theorem m1_neg : oS none < 0 := by decide
theorem oSn_nneg {n : Nat} (h : n < 2 ^ 31) : ¬ oS (some n) < 0 := nI_pos h
theorem in_n {x : Int32} {n : Nat} (hn : n < 2 ^ 30) (hx : x < 0 ∨ nI n ≤ x) : x < 0 ∨ nI n - 1 < x := by
  rcases hx with h | h
  · exact Or.inl h
  · refine Or.inr ?_
    rcases Nat.eq_zero_or_pos n with e | e
    · subst e
      rw [Int32.lt_iff_toInt_lt, show (nI 0 - 1 : Int32).toInt = -1 by decide]
      have := Int32.le_iff_toInt_le.mp h
      rw [show (nI 0).toInt = 0 by decide] at this
      omega
    · rw [show (1 : Int32) = nI 1 from rfl, pk_sub e]
      have := (nlt_le (x := x) (n := n - 1) (by omega)).mpr
      rw [show n - 1 + 1 = n by omega] at this
      exact this h
theorem in_y {i n : Nat} (hn : n < 2 ^ 30) (hi : i < n) : ¬ nI n - 1 < nI i := by
  rw [show (1 : Int32) = nI 1 from rfl, pk_sub (by omega)]
  exact nI_nlt (by omega) (by omega)
theorem i8_twice (x : Int32) : x.toInt8.toInt32.toInt8.toInt32 = x.toInt8.toInt32 := by simp
end RR2
