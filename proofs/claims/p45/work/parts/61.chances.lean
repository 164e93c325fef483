/-! promises 34, 35: the reference's, the laws -/
section CHM
variable {G : Glob} {M : Mem} {Q : Option Value → Mem → Prop} {S : St} {D : Dr} {n ins p q left : Nat}
theorem all_end (hn : n ≤ 8) {j : Nat} : nI (2 ^ n - 1) < nI j ∧ j ≤ 256 → 2 ^ n ≤ j := fun h => by
  have p2 := p2_257 hn
  rw [nI_ltI (by omega) (by omega)] at h
  omega
def eno (D : Dr) (v j : Nat) : Nat := if most D j < v then 0 else 1
theorem mk_ok (hk : SOk S) {v : Nat} (hv : v < 5) (M0 : Mem) (hT : ∀ m, m < 2 ^ dn S.2.2.1 → M0.1 26 m = nI (most S.2.2.1 m)) (h : ∀ M', Eqv (fun a _ => a = 27) M0 M' → (∀ m, m < 2 ^ dn S.2.2.1 → M'.1 27 m = nI (eno S.2.2.1 v m)) → Q none M') : C_X6_markSetsOf G (nI v) M0 Q := by
  have p2 := p2_257 hk.2.2.1.1
  have lp : ∀ (k j : Nat) (M : Mem), j + k = 256 → Eqv (fun a _ => a = 27) M0 M → (∀ m, m < j → m < 2 ^ dn S.2.2.1 → M.1 27 m = nI (eno S.2.2.1 v m)) → P_X6_markSetsOf_2 G (nI v) (nI j) M Q := by
    intro k
    induction k with
    | zero =>
      intro j M hj e he
      have : j = 256 := by omega
      subst this
      exact v_X6_markSetsOf_2 (br_f (by decide) (h M e fun m hm => he m (by omega) hm))
    | succ k ih =>
      intro j M hj e he
      refine v_X6_markSetsOf_2 (br_t (show nI j < nI 256 from nI_lt (by omega) (by decide)) ⟨vin (by omega), ?_⟩)
      rw [ncl (by omega), e.i (by omega), nI_1]
      have put : ∀ z : Int32, (j < 2 ^ dn S.2.2.1 → z = nI (eno S.2.2.1 v j)) → P_X6_markSetsOf_2 G (nI v) (nI (j + 1)) (upI M 27 j z) Q := fun z hz => ih (j + 1) _ (by omega) (e.upI rfl) fun m hm hm2 => by
        by_cases c : m = j
        · subst c; rw [upI_s]; exact hz hm2
        · rw [upI_n _ _ (by omega)]; exact he m (by omega) hm2
      have lt : j < 2 ^ dn S.2.2.1 → (M0.1 26 j < nI v ↔ most S.2.2.1 j < v) := fun hj2 => by
        have ml : most S.2.2.1 j ≤ 8 := most_le _ _
        rw [hT j hj2, nI_ltI (by omega) (by omega)]
      refine ⟨fun c => ⟨vin (by omega), ?_⟩, fun c => ⟨vin (by omega), ?_⟩⟩
      · rintro _ rfl
        refine put 0 fun hj2 => ?_
        rw [show eno S.2.2.1 v j = 0 from if_pos ((lt hj2).mp c)]
        rfl
      · rintro _ rfl
        refine put 1 fun hj2 => ?_
        rw [show eno S.2.2.1 v j = 1 from if_neg fun z => c ((lt hj2).mpr z)]
        rfl
  exact v_X6_markSetsOf (lp 256 0 M0 (by omega) Eqv.rf (fun m hm => absurd hm (Nat.not_lt_zero m)))
theorem lt12 {x : Int32} (h : x < 0 ∨ nI 13 ≤ x) : x < 0 ∨ nI 12 < x := h.imp id fun q => (nlt_le (n := 12) (by decide)).mpr q
theorem ch_y (hp : p < 13) (h : Q (some (.int 1)) M) : C_X10_isChance G (nI p) M Q := v_X10_isChance (br_f (nI_pos (by omega)) (br_f (show ¬ nI 12 < nI p from nI_nlt (by omega) (by omega)) h))
theorem ch_n {x : Int32} (hx : x < 0 ∨ nI 13 ≤ x) (h : Q (some (.int 0)) M) : C_X10_isChance G x M Q := v_X10_isChance ⟨fun _ => h, fun c => br_t ((lt12 hx).resolve_left c) h⟩
end CHM
