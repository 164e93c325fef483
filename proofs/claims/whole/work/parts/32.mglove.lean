/-! the reference's gloves -/
def GlM (M : Mem) (i : Nat) (x : Gl) : Prop := M.1 82 i = nI (gK x) ∧ M.1 83 i = nI (gS x) ∧ M.1 84 i = nI (gH x) ∧ M.1 85 i = nI (gW x) ∧ M.1 87 i = nI (gR x)
def gmask (x : Gl) : Nat := if isN (gK x) 2 then 3 else if gH x = 0 then 1 else 2
theorem mp_mask {x y : Gl} (hx : gH x < 2) (hy : gH y < 2) : mp x y = !(gmask x == gmask y && gmask x != 3) := by
  unfold mp goN gmask
  have hx' : gH x = 0 ∨ gH x = 1 := by omega
  have hy' : gH y = 0 ∨ gH y = 1 := by omega
  cases isN (gK x) 2 <;> cases isN (gK y) 2 <;> rcases hx' with e | e <;> rcases hy' with e2 | e2 <;> rw [e, e2] <;> rfl
section GLM
variable {G : Glob} {M : Mem} {Q : Option Value → Mem → Prop} {i j : Nat} {x y : Gl}
theorem m_isOf_ok {k c : Nat} (hk : k < 6) (hc : c < 6) (hc0 : 0 < c) (h : Q (some (.int (bI (isN k c)))) M) : C_X11_isOf G (nI k) (nI c) M Q := by
  refine v_X11_isOf ?_
  rcases lt6 hk with rfl | rfl | rfl | rfl | rfl | rfl <;> rcases lt6 hc with rfl | rfl | rfl | rfl | rfl | rfl <;> (try exact absurd hc0 (by decide)) <;>
    repeat (first | exact h | refine br_t (by decide) ?_ | refine br_f (by decide) ?_)
theorem m_warmth26_ok {k w r : Nat} (hi : i < 8) (hk : k < 6) (hw : w < 10) (hr : r < 64) (er : M.1 87 i = nI r) (h : Q (some (.int (nI (wmN k w r)))) M) : P_X11_warmthAs_26 G (nI k) (nI i) (nI (bareN w r)) M Q := by
  refine v_X11_warmthAs_26 ?_
  have hb : bareN w r < 16 := by unfold bareN; omega
  have e4 : (nI r < 6) = (r < 6) := by rw [show (6 : Int32) = nI 6 from rfl, nI_ltI (by omega) (by decide)]
  have e5 : ((0 : Int32) < nI (bareN w r)) = (0 < bareN w r) := by rw [show (0 : Int32) = nI 0 from rfl, nI_ltI (by omega) (by omega)]
  have e6 : 0 < bareN w r → nI (bareN w r) - 1 = nI (bareN w r - 1) := fun q => by
    rw [show (1 : Int32) = nI 1 from rfl, pk_sub q]
  rw [ncl (by omega), er, e4, e5, show (2 : Int32) = nI 2 from rfl, show (3 : Int32) = nI 3 from rfl, nI_add, nI_add]
  unfold wmN at h
  rcases lt6 hk with rfl | rfl | rfl | rfl | rfl | rfl <;> simp only [] at h
  case inr.inr.inr.inr.inl =>
    refine br_f (by decide) (br_f (by decide) (br_f (by decide) (br_t (by decide) ⟨vin hi, ?_⟩)))
    split at h
    · rename_i c
      exact br_t c h
    · rename_i c
      exact br_f c h
  case inr.inr.inl =>
    refine br_f (by decide) (br_t (by decide) ⟨fun c => ?_, fun c => ?_⟩)
    · rw [e6 c]; exact h
    · rw [show bareN w r - 1 = 0 by omega] at h; exact h
  case inr.inr.inr.inr.inr =>
    refine br_f (by decide) (br_f (by decide) (br_f (by decide) (br_f (by decide) (br_t (by decide) ⟨fun c => ?_, fun c => ?_⟩))))
    · rw [e6 c]; exact h
    · rw [show bareN w r - 1 = 0 by omega] at h; exact h
  all_goals repeat (first | exact h | refine br_t (by decide) ?_ | refine br_f (by decide) ?_)
theorem m_warmth_ok {k w r : Nat} (hi : i < 8) (hk : k < 6) (hw : w < 10) (hr : r < 64) (ew : M.1 85 i = nI w) (er : M.1 87 i = nI r) (h : Q (some (.int (nI (wmN k w r)))) M) : C_X11_warmthAs G (nI k) (nI i) M Q := by
  refine v_X11_warmthAs ⟨vin hi, vin hi, ?_⟩
  rintro _ rfl
  rw [ncl (by omega), ew, er]
  obtain ⟨b1, b2⟩ := bare_tab2 w hw r hr
  refine ⟨fun c => ?_, fun c => ?_⟩
  · have e : (0 : Int32) = nI (bareN w r) := by rw [show bareN w r = 0 by have := b1.mp c; unfold bareN; omega]; rfl
    rw [e]
    exact m_warmth26_ok hi hk hw hr er h
  · rw [b2 (fun q => c (b1.mpr q))]
    exact m_warmth26_ok hi hk hw hr er h
theorem m_goesOn_ok {k hd : Nat} (hk : k < 6) (hh : hd < 2) (h : Q (some (.int (nI (gmask (k, 0, hd, 0, 0))))) M) : C_X11_goesOn G (nI k) (nI hd) M Q := by
  refine v_X11_goesOn (m_isOf_ok (c := 2) hk (by decide) (by decide) (RI.mk ⟨fun e => ?_, fun e => ?_⟩))
  · unfold gmask at h
    rw [if_neg (by rw [bI_0.mp e]; decide)] at h
    have hh' : hd = 0 ∨ hd = 1 := by omega
    rcases hh' with rfl | rfl <;> exact h
  · unfold gmask at h
    rw [if_pos (bI_n0.mp e)] at h
    exact h
set_option maxRecDepth 100000 in
theorem ap_tab : ∀ s, s < 10 → ∀ t, t < 10 → (nI s < nI t ↔ s < t) ∧ (s < t → nI t - nI s = nI (apN s t)) ∧ (¬ s < t → nI s - nI t = nI (apN s t)) := by decide +kernel
set_option maxRecDepth 100000 in
theorem less_tab : ∀ u, u < 26 → ∀ p, p < 10 → ((nI u - 2 * nI p < 0) ↔ u < 2 * p) ∧ (¬ u < 2 * p → nI u - 2 * nI p = nI (u - 2 * p)) := by decide +kernel
/-- a pair, the first one as of a kind, a sort, for a hand -/
theorem m_pairAs_ok {k s hd : Nat} (hi : i < 8) (hj : j < 8) (hx : GlOk x) (hy : GlOk y) (hxk : k < 6) (hxs : s < 10) (hxh : hd < 2) (ew : M.1 85 i = nI (gW x)) (er : M.1 87 i = nI (gR x)) (ey : GlM M j y) (h : Q (some (.int (oI (gw (k, s, hd, gW x, gR x) y)))) M) : C_X11_pairAs G (nI i) (nI k) (nI s) (nI hd) (nI j) M Q := by
  refine v_X11_pairAs (m_goesOn_ok hxk hxh (RI.mk ⟨vin hj, vin hj, ?_⟩))
  rw [ncl (by omega), ey.1, ey.2.2.1]
  have em := mp_mask (x := (k, s, hd, gW x, gR x)) (y := y) hxh hy.2.2.1
  have m1 : gmask (k, s, hd, gW x, gR x) = gmask (k, 0, hd, 0, 0) := rfl
  have m2 : gmask y = gmask (gK y, 0, gH y, 0, 0) := rfl
  rw [m1, m2] at em
  have q1 : ∀ z : Gl, gmask z < 4 := fun z => by unfold gmask; split <;> (try split) <;> omega
  have step : mp (k, s, hd, gW x, gR x) y = true → P_X11_pairAs_43 G (nI i) (nI k) (nI s) (nI j) M Q := by
    intro hmp
    unfold gw gwN at h
    rw [hmp, if_pos rfl] at h
    refine v_X11_pairAs_43 ⟨vin hj, ?_⟩
    rw [ncl (by omega), ey.2.1]
    obtain ⟨a1, a2, a3⟩ := ap_tab s hxs _ hy.2.1
    have l1 : wmN k (gW x) (gR x) < 13 := wmN_lt hx.2.2.2.1
    have l2 : wm y < 13 := wmN_lt hy.2.2.2.1
    have hap : apN s (gS y) < 10 := by have := hy.2.1; unfold apN; split <;> omega
    have fin : ∀ b : Nat, b < 2 → (b = 1 ↔ (k = 5 ∨ gK y = 5)) → P_X11_pairAs_100 G (nI i) (nI k) (nI j) (nI (apN s (gS y))) (nI b) M Q := by
      intro b hb hbe
      refine v_X11_pairAs_100 (m_warmth_ok hi hxk hx.2.2.2.1 hx.2.2.2.2 ew er (RI.mk ⟨vin hj, ?_⟩))
      rw [ncl (by omega), ey.1]
      refine m_warmth_ok hj hy.1 hy.2.2.2.1 hy.2.2.2.2 ey.2.2.2.1 ey.2.2.2.2 (RI.mk ?_)
      have hw2 : wmN (gK y) (gW y) (gR y) = wm y := rfl
      have hw1 : wm (k, s, hd, gW x, gR x) = wmN k (gW x) (gR x) := rfl
      rw [hw1] at h
      rw [hw2, nI_add]
      refine ⟨fun c => ?_, fun c => ?_⟩
      · have hb0 : b ≠ 1 := fun q => by subst q; exact absurd c (by decide)
        rw [if_neg (fun q => hb0 (hbe.mpr q))] at h
        obtain ⟨t1, t2⟩ := less_tab (wmN k (gW x) (gR x) + wm y) (by omega) _ hap
        refine ⟨fun c2 => ?_, fun c2 => ?_⟩
        · have h3 := t1.mp c2
          rw [show wmN k (gW x) (gR x) + wm y - 2 * apN s (gS y) = 0 by omega] at h
          exact h
        · rw [t2 (fun q => c2 (t1.mpr q))]
          exact h
      · have hb1 : b = 1 := by
          rcases (show b = 0 ∨ b = 1 by omega) with q | q
          · subst q; exact absurd rfl c
          · exact q
        rw [if_pos (hbe.mp hb1)] at h
        have h0 : nI (wmN k (gW x) (gR x) + wm y) - 0 = nI (wmN k (gW x) (gR x) + wm y) := by rw [show (0 : Int32) = nI 0 from rfl, pk_sub (Nat.zero_le _)]; rfl
        rw [h0]
        exact ⟨fun c2 => absurd c2 (nI_pos (by omega)), fun _ => h⟩
    have seven : P_X11_pairAs_77 G (nI i) (nI k) (nI j) (nI (apN s (gS y))) M Q := by
      refine v_X11_pairAs_77 ?_
      rw [ncl (by omega), ey.1, show (5 : Int32) = nI 5 from rfl, nI_eq (by omega) (by decide), nI_eq (by have := hy.1; omega) (by decide)]
      refine ⟨fun c => ?_, fun c => ⟨vin hj, fun c2 => ?_, fun c2 => ?_⟩⟩
      · exact v_X11_pairAs_93 (fin 1 (by decide) ⟨fun _ => Or.inl c, fun _ => rfl⟩)
      · exact v_X11_pairAs_93 (fin 1 (by decide) ⟨fun _ => Or.inr c2, fun _ => rfl⟩)
      · exact fin 0 (by decide) ⟨fun q => absurd q (by decide), fun q => absurd q (fun q => q.elim c c2)⟩
    refine ⟨fun c => ⟨vin hj, ?_⟩, fun c => ⟨vin hj, ?_⟩⟩
    · rintro _ rfl
      rw [a2 (a1.mp c)]
      exact seven
    · rintro _ rfl
      rw [a3 (fun q => c (a1.mpr q))]
      exact seven
  refine m_goesOn_ok hy.1 hy.2.2.1 (RI.mk ⟨fun c => ?_, fun c => ?_⟩)
  · have c' := (nI_eq (by have := q1 (k, 0, hd, 0, 0); omega) (by have := q1 (gK y, 0, gH y, 0, 0); omega)).mp c
    refine ⟨fun d => step ?_, fun d => ?_⟩
    · have d' : gmask (k, 0, hd, 0, 0) = 3 := (nI_eq (by have := q1 (k, 0, hd, 0, 0); omega) (by decide)).mp d
      rw [em, d']
      simp
    · have d' : gmask (k, 0, hd, 0, 0) ≠ 3 := fun q => d (by rw [q]; rfl)
      unfold gw at h
      rw [em, ← c'] at h
      simp only [beq_self_eq_true, Bool.true_and] at h
      rw [bne_iff_ne.mpr d'] at h
      exact h
  · have c' : gmask (k, 0, hd, 0, 0) ≠ gmask (gK y, 0, gH y, 0, 0) := fun q => c (by rw [q])
    refine step ?_
    rw [em, beq_eq_false_iff_ne.mpr c']
    rfl
theorem m_pairOf_ok (hi : i < 8) (hj : j < 8) (hx : GlOk x) (hy : GlOk y) (ex : GlM M i x) (ey : GlM M j y) (h : Q (some (.int (oI (gw x y)))) M) : C_X11_pairOf G (nI i) (nI j) M Q := by
  refine v_X11_pairOf ⟨vin hi, vin hi, vin hi, ?_⟩
  rw [ncl (by omega), ex.1, ex.2.1, ex.2.2.1]
  exact m_pairAs_ok hi hj hx hy hx.1 hx.2.1 hx.2.2.1 ex.2.2.2.1 ex.2.2.2.2 ey (RI.mk h)
end GLM
