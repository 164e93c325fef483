section DUZ
variable {G : Glob} {M : Mem} {Q : Option Value → Mem → Prop} {S : St} {D : Dr} {n ins N last w c : Nat}
theorem fv_last (hk : DOk D) (hins : ins < 2 ^ dn D) (hsub : ∀ i, (gn (dn D) c).testBit i = true → ins.testBit i = true) (hT : tkn (dn D) c = last) (hl : last = N ∨ last = pop ins) : FV D ins N c = (best D (hs (dn D) 1 c) : Int) - best D (hs (dn D) 2 c) := by
  have p2 := p2_257 hk.1
  have hw : last % 2 < 2 := Nat.mod_lt _ (by decide)
  have ok := ok_w (w := last % 2) (ok_of hsub) hw
  have e : FV D ins N c = sgn (last % 2) ((best D (hs (dn D) (1 + last % 2) c) : Int) - best D (hs (dn D) (2 - last % 2) c)) := by
    unfold FV
    rw [hT]
    rcases hl with e | e
    · rw [e, Nat.sub_self]; rfl
    · obtain ⟨f1, f2⟩ := pop_fr (by omega) ok
      rw [pop_w _ _ hw, hT] at f1
      rw [pop_z _ f2 (by omega), vl_0]
  rw [e]
  rcases (show last % 2 = 0 ∨ last % 2 = 1 by omega) with e | e <;> rw [e]
  · rfl
  · unfold sgn
    rw [if_neg (by decide)]
    show -((best D (hs (dn D) 2 c) : Int) - best D (hs (dn D) 1 c)) = _
    omega
theorem la_ok (hk : SOk S) (hC : RC S M) (hT : TbC S.2.2.1 (2 ^ dn S.2.2.1) M) (hins : ins < 2 ^ dn S.2.2.1) (hn6 : n ≤ 6) (h : ∀ M', E40 M M' → Q (some (.int (iI (vl S.2.2.1 n 0 0 ins)))) M') : C_X8_leadAfter G (nI ins) (nI n) M Q := by
  have p2 := p2_257 hk.2.2.1.1
  have f0 : fr ins 0 0 = ins := by unfold fr; rw [Nat.xor_zero, Nat.xor_zero]
  have lp : ∀ (k j : Nat) (M1 : Mem), j + k = 6561 → E40 M M1 → (∀ p, p < j → M1.1 40 p = 1000000) → P_X8_leadAfter_3 G (nI ins) (nI n) (nI j) M1 Q := by
    intro k
    induction k with
    | zero =>
      intro j M1 hj e hu
      have : j = 6561 := by omega
      subst this
      have ok00 : Okp ins 0 0 := by
        refine ⟨fun i hi => absurd hi (by simp), fun i hi => absurd hi (by simp)⟩
      have lo := lead_ok (G := G) (n := n) hk M hC hT hins hn6 n 7 0 0 M1 (RI fun r3 M2 => Q (some (.int r3)) M2) (by omega) (by rw [show pop 0 = 0 from rfl]; omega) ok00 e (fun m o hmo => Or.inl (hu _ (wy_lt hmo.1 (sub_lt (k := 8) (Nat.lt_of_lt_of_le hins p2) fun i q => hmo.2 i (Or.inl q)) (sub_lt (k := 8) (Nat.lt_of_lt_of_le hins p2) fun i q => hmo.2 i (Or.inr q))))) (fun M' e' _ => by rw [f0]; exact RI.mk (h M' e'))
      rw [f0] at lo
      exact v_X8_leadAfter_3 (br_f (show ¬ nI 6561 < nI 6561 from nI_nlt (Nat.le_refl _) (by decide)) lo)
    | succ k ih =>
      intro j M1 hj e hu
      refine v_X8_leadAfter_3 (br_t (show nI j < nI 6561 from nI_lt (by omega) (by decide)) ⟨vin (by omega), ?_⟩)
      rw [ncl (by omega), nI_1]
      rintro _ rfl
      refine ih (j + 1) _ (by omega) (e.upI rfl) fun p hp => ?_
      by_cases c : p = j
      · subst c; rw [upI_s]
      · rw [upI_n _ _ (by omega)]; exact hu p (by omega)
  exact v_X8_leadAfter (lp 6561 0 M (by omega) Eqv.rf (fun p hp => absurd hp (Nat.not_lt_zero p)))
end DUZ
