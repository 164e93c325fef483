/-! the class's gloves -/
section GLV
variable {G : Glob} {M : Mem} {Q : Option Value → Mem → Prop} {a b : Nat} {x y : Gl}
theorem isOf_ok (ha : kd a = 4) (hx : GlAt M a x) (hk : GlOk x) {c : Nat} (hc : c < 6) (h : Q (some (.int (bI (isN (gK x) c)))) M) : C_X4_isOf G a (nI c) M Q := by
  refine v_X4_isOf ha ?_
  rw [hx.1]
  rcases lt6 hk.1 with e | e | e | e | e | e <;> rw [e] at h ⊢ <;> rcases lt6 hc with rfl | rfl | rfl | rfl | rfl | rfl <;>
    repeat (first | exact h | refine br_t (by decide) ?_ | refine br_f (by decide) ?_)
theorem bare_ok (ha : kd a = 4) (hx : GlAt M a x) (hk : GlOk x) (h : Q (some (.int (nI (bareN (gW x) (gR x))))) M) : C_X4_bareWarmth G a M Q := by
  refine v_X4_bareWarmth ha ?_
  rw [hx.2.2.2.1, hx.2.2.2.2, bare_tab _ hk.2.2.2.1 _ hk.2.2.2.2]
  exact h
theorem warmth_ok (ha : kd a = 4) (hx : GlAt M a x) (hk : GlOk x) (h : Q (some (.int (nI (wm x)))) M) : C_X4_warmth G a M Q := by
  refine v_X4_warmth ha (bare_ok ha hx hk (RI.mk ?_))
  have hb : bareN (gW x) (gR x) < 16 := by have := hk.2.2.2.1; unfold bareN; omega
  have e4 : (nI (gR x) < 6) = (gR x < 6) := by rw [show (6 : Int32) = nI 6 from rfl, nI_ltI (by have := hk.2.2.2.2; omega) (by decide)]
  rw [hx.1, hx.2.2.2.2, e4, dec_tab _ hb, show (2 : Int32) = nI 2 from rfl, show (3 : Int32) = nI 3 from rfl, nI_add, nI_add]
  unfold wm wmN at h
  rcases lt6 hk.1 with e | e | e | e | e | e <;> rw [e] at h ⊢ <;> simp only [] at h
  case inr.inr.inr.inr.inl =>
    refine br_f (by decide) (br_f (by decide) (br_f (by decide) (br_t (by decide) ?_)))
    split at h
    · rename_i c
      exact br_t c h
    · rename_i c
      exact br_f c h
  all_goals repeat (first | exact h | refine br_t (by decide) ?_ | refine br_f (by decide) ?_)
theorem goesOn_ok (ha : kd a = 4) (hx : GlAt M a x) (hk : GlOk x) {c : Nat} (hc : c < 2) (h : Q (some (.int (bI (goN x c)))) M) : C_X4_goesOn G a (nI c) M Q := by
  refine v_X4_goesOn ha ?_
  rw [hx.2.2.1, nI_eq (by have := hk.2.2.1; omega) (by omega)]
  unfold goN at h
  refine ⟨fun e => ?_, fun e => ?_⟩
  · rw [beq_iff_eq.mpr e] at h
    exact h
  · rw [beq_eq_false_iff_ne.mpr e, Bool.false_or] at h
    refine isOf_ok (c := 2) ha hx hk (by decide) (RI.mk ⟨fun q => ?_, fun q => ?_⟩)
    · rw [bI_0.mp q] at h
      exact h
    · rw [bI_n0.mp q] at h
      exact h
theorem makes_ok (ha : kd a = 4) (hb : kd b = 4) (hx : GlAt M a x) (hk : GlOk x) (hy : GlAt M b y) (hl : GlOk y) (h : Q (some (.int (bI (mp x y)))) M) : C_X4_makesPairWith G a b M Q := by
  refine v_X4_makesPairWith ha hb ?_
  unfold mp at h
  refine goesOn_ok (c := 0) ha hx hk (by decide) (RI.mk ⟨fun e => ?_, fun e => ?_⟩)
  · rw [bI_0.mp e, Bool.false_and, Bool.false_or] at h
    refine goesOn_ok (c := 1) ha hx hk (by decide) (RI.mk ⟨fun e => ?_, fun e => ?_⟩)
    · rw [bI_0.mp e] at h; exact h
    · rw [bI_n0.mp e, Bool.true_and] at h
      refine goesOn_ok (c := 0) hb hy hl (by decide) (RI.mk ⟨fun e => ?_, fun e => ?_⟩)
      · rw [bI_0.mp e] at h; exact h
      · rw [bI_n0.mp e] at h; exact h
  · rw [bI_n0.mp e, Bool.true_and] at h
    refine goesOn_ok (c := 1) hb hy hl (by decide) (RI.mk ⟨fun e => ?_, fun e => ?_⟩)
    · rw [bI_0.mp e, Bool.false_or] at h
      refine goesOn_ok (c := 1) ha hx hk (by decide) (RI.mk ⟨fun e => ?_, fun e => ?_⟩)
      · rw [bI_0.mp e] at h; exact h
      · rw [bI_n0.mp e, Bool.true_and] at h
        refine goesOn_ok (c := 0) hb hy hl (by decide) (RI.mk ⟨fun e => ?_, fun e => ?_⟩)
        · rw [bI_0.mp e] at h; exact h
        · rw [bI_n0.mp e] at h; exact h
    · rw [bI_n0.mp e] at h; exact h
set_option maxRecDepth 100000 in
theorem good_tab : ∀ u, u < 26 → ∀ s, s < 10 → ∀ t, t < 10 → (if (0 : Int32) < nI u - 2 * (if (0 : Int32) ≤ nI s - nI t then nI s - nI t else (0 : Int32) - (nI s - nI t)) then nI u - 2 * (if (0 : Int32) ≤ nI s - nI t then nI s - nI t else (0 : Int32) - (nI s - nI t)) else 0) = nI (u - 2 * apN s t) := by decide +kernel
theorem goodWith_ok (ha : kd a = 4) (hb : kd b = 4) (hx : GlAt M a x) (hk : GlOk x) (hy : GlAt M b y) (hl : GlOk y) (h : Q (some (.int (oI (gw x y)))) M) : C_X4_goodWith G a b M Q := by
  refine v_X4_goodWith ha hb (makes_ok ha hb hx hk hy hl (RI.mk ⟨fun e => ?_, fun e => ?_⟩))
  · unfold gw at h
    rw [bI_0.mp e] at h
    exact h
  · unfold gw gwN at h
    rw [bI_n0.mp e, if_pos rfl] at h
    refine warmth_ok ha hx hk (RI.mk (warmth_ok hb hy hl (RI.mk ?_)))
    have l1 : wm x < 13 := wmN_lt hk.2.2.2.1
    have l2 : wm y < 13 := wmN_lt hl.2.2.2.1
    rw [hx.1, hy.1, hx.2.1, hy.2.1, nI_add, good_tab _ (by omega) _ hk.2.1 _ hl.2.1, show (5 : Int32) = nI 5 from rfl, nI_eq (by have := hk.1; omega) (by decide), nI_eq (by have := hl.1; omega) (by decide)]
    refine ⟨fun c => ?_, fun c => ⟨fun c2 => ?_, fun c2 => ?_⟩⟩
    · rw [if_pos (Or.inl c)] at h; exact h
    · rw [if_pos (Or.inr c2)] at h; exact h
    · rw [if_neg (fun q => q.elim c c2)] at h; exact h
end GLV
