/-! the reference reads -/
section RDM
variable {G : Glob} {M : Mem} {Q : Option Value → Mem → Prop} {r n p : Nat} {s : RSt}
def cho (f : Nat → Int32) (n p : Nat) : Int32 := if p < n then f p else -9
def DrfM (M : Mem) (i : Nat) (x : Gs) : Prop := M.1 78 i = nI x.1 ∧ M.1 79 i = nI x.2.1 ∧ M.1 80 i = nI x.2.2.1 ∧ M.1 81 i = nI x.2.2.2
theorem kindBy_ok {c : Int32} (h : Q (some (.int (oI (kdc c)))) M) : C_X11_kindBy G c M Q := by
  refine v_X11_kindBy ?_
  unfold kdc at h
  by_cases c1 : c = 101
  · subst c1; repeat (first | exact h | refine br_t (by decide) ?_ | refine br_f (by decide) ?_)
  by_cases c2 : c = 103
  · subst c2; repeat (first | exact h | refine br_t (by decide) ?_ | refine br_f (by decide) ?_)
  by_cases c3 : c = 108
  · subst c3; repeat (first | exact h | refine br_t (by decide) ?_ | refine br_f (by decide) ?_)
  by_cases c4 : c = 109
  · subst c4; repeat (first | exact h | refine br_t (by decide) ?_ | refine br_f (by decide) ?_)
  by_cases c5 : c = 115
  · subst c5; repeat (first | exact h | refine br_t (by decide) ?_ | refine br_f (by decide) ?_)
  by_cases c6 : c = 116
  · subst c6; repeat (first | exact h | refine br_t (by decide) ?_ | refine br_f (by decide) ?_)
  rw [if_neg c1, if_neg c2, if_neg c3, if_neg c4, if_neg c5, if_neg c6] at h
  repeat (first | exact h | refine br_f (by assumption) ?_ | refine ⟨fun _ => h, fun _ => ?_⟩)
theorem here_ok (hs : RowsM 4 60 76 75 s M) (hk : ROk 4 60 s) (hr : r < 4) (hn : s.1 r = some n) (h16 : M.1 71 16 = nI r) (h17 : M.1 71 17 = nI p) (hp : p < 2 ^ 20) (h : Q (some (.int (cho (s.2 r) n p))) M) : C_X11_here G M Q := by
  have h60 := hk r hr n hn
  refine v_X11_here ?_
  rw [h16, h17, ix60, ncl (by omega), (hs r hr).1, hn]
  unfold cho at h
  refine ⟨vin hr, fun c => ?_, fun c => ?_⟩
  · have c' : p < n := by rwa [show oS (some n) = nI n from rfl, nI_ltI (by omega) (by omega)] at c
    rw [if_pos c'] at h
    refine ⟨vin (by omega), ?_⟩
    rw [ncl (by omega), (hs r hr).2 n hn p c']
    exact h
  · have c' : ¬ p < n := fun q => c (nI_lt q (by omega))
    rw [if_neg c'] at h
    exact h
theorem RowsM.pl {s : RSt} {M M' : Mem} {P : Nat → Nat → Prop} (hs : RowsM 4 60 76 75 s M) (e : Eqv P M M') (hp : ∀ a k, P a k → a ≠ 76 ∧ a ≠ 75) : RowsM 4 60 76 75 s M' := hs.eqv e hp
theorem skip_loop (hk : ROk 4 60 s) (hr : r < 4) (hn : s.1 r = some n) (M0 : Mem) : ∀ (k p : Nat) (M : Mem), n ≤ p + k → p < 2 ^ 20 → RowsM 4 60 76 75 s M → M.1 71 16 = nI r → M.1 71 17 = nI p → Eqv (fun a k => a = 71 ∧ k = 17) M0 M →
    (∀ M', Eqv (fun a k => a = 71 ∧ k = 17) M0 M' → M'.1 71 17 = nI (skp (s.2 r) n p) → Q none M') → P_X11_skip_0 G M Q := by
  have h60 := hk r hr n hn
  have out : ∀ (p : Nat) (M : Mem), ¬ p < n → p < 2 ^ 20 → RowsM 4 60 76 75 s M → M.1 71 16 = nI r → M.1 71 17 = nI p → Eqv (fun a k => a = 71 ∧ k = 17) M0 M →
      (∀ M', Eqv (fun a k => a = 71 ∧ k = 17) M0 M' → M'.1 71 17 = nI (skp (s.2 r) n p) → Q none M') → P_X11_skip_0 G M Q := by
    intro p M c hb hs h16 h17 e hQ
    refine v_X11_skip_0 (here_ok hs hk hr hn h16 h17 hb (RI.mk ?_))
    unfold cho
    rw [if_neg c]
    refine br_f (by decide) (hQ M e ?_)
    rw [skp_n (fun q => c q.1), h17]
  intro k
  induction k with
  | zero =>
    intro p M hp hb hs h16 h17 e hQ
    exact out p M (by omega) hb hs h16 h17 e hQ
  | succ k ih =>
    intro p M hp hb hs h16 h17 e hQ
    by_cases c : p < n
    · refine v_X11_skip_0 (here_ok hs hk hr hn h16 h17 hb (RI.mk ?_))
      unfold cho
      rw [if_pos c]
      refine ⟨fun d => ?_, fun d => ?_⟩
      · rintro _ rfl
        rw [h17, nI_1]
        rw [skp_s c d] at hQ
        exact ih (p + 1) _ (by omega) (by omega) (hs.pl (P := fun a k => a = 71) (Eqv.rf.upI rfl) (by omega)) (by rw [upI_n _ _ (by omega)]; exact h16) (upI_s _ _ _ _) (e.upI ⟨rfl, rfl⟩) hQ
      · refine hQ M e ?_
        rw [skp_n (fun q => d q.2), h17]
    · exact out p M c hb hs h16 h17 e hQ
theorem skip_ok (hs : RowsM 4 60 76 75 s M) (hk : ROk 4 60 s) (hr : r < 4) (hn : s.1 r = some n) (h16 : M.1 71 16 = nI r) (h17 : M.1 71 17 = nI p) (hp : p < 2 ^ 20)
    (h : ∀ M', Eqv (fun a k => a = 71 ∧ k = 17) M M' → M'.1 71 17 = nI (skp (s.2 r) n p) → Q none M') : C_X11_skip G M Q :=
  v_X11_skip (skip_loop hk hr hn M n p M (by omega) hp hs h16 h17 Eqv.rf h)
theorem fg_cho {f : Nat → Int32} {n p lo hi : Nat} (hlh : lo ≤ hi) (hl : hi ≤ 9) : (fgo f n p lo hi = none ∧ (cho f n p < nI (48 + lo) ∨ nI (48 + hi) < cho f n p)) ∨ (∃ v, lo ≤ v ∧ v ≤ hi ∧ p < n ∧ cho f n p = nI (48 + v) ∧ fgo f n p lo hi = some v) := by
  unfold fgo cho
  by_cases c : p < n
  · rw [if_pos c, if_pos c]
    rcases fg_or (f p) hlh hl with ⟨a, b, d⟩ | ⟨v, a, b, d, e⟩
    · exact Or.inl ⟨a, d⟩
    · exact Or.inr ⟨v, a, b, c, d, e⟩
  · rw [if_neg c, if_neg c]
    refine Or.inl ⟨rfl, Or.inl ?_⟩
    rw [Int32.lt_iff_toInt_lt, nI_toInt (by omega), show (-9 : Int32).toInt = -9 by decide]
    omega
theorem mfig_s (hs : RowsM 4 60 76 75 s M) (hk : ROk 4 60 s) (hr : r < 4) (hn : s.1 r = some n) (h16 : M.1 71 16 = nI r) (h17 : M.1 71 17 = nI p) (hp : p < 2 ^ 20) {e : Nat} (he : M.1 71 18 = nI e) (heb : e < 2 ^ 31) {x y : Int32} (h : Q (some (.int 0)) M) : C_X11_figure G x y M Q := by
  refine v_X11_figure (here_ok hs hk hr hn h16 h17 hp (RI.mk ?_))
  rw [he]
  exact br_f (nI_ne9 heb) h
theorem mfig_y (hs : RowsM 4 60 76 75 s M) (hk : ROk 4 60 s) (hr : r < 4) (hn : s.1 r = some n) (h16 : M.1 71 16 = nI r) (h17 : M.1 71 17 = nI p) (hp : p < 2 ^ 20) (h18 : M.1 71 18 = -9) {lo hi v : Nat} (hlh : lo ≤ hi) (hl : hi ≤ 9) (hv : fgo (s.2 r) n p lo hi = some v) (h : Q (some (.int (nI v))) (upI M 71 17 (nI (p + 1)))) : C_X11_figure G (nI lo) (nI hi) M Q := by
  refine v_X11_figure (here_ok hs hk hr hn h16 h17 hp (RI.mk (br_t h18 ?_)))
  rcases fg_cho (f := s.2 r) (n := n) (p := p) hlh hl with ⟨a, -⟩ | ⟨u, u1, u2, u3, u4, u5⟩
  · rw [a] at hv; cases hv
  · rw [u5] at hv
    cases hv
    have e48 : ∀ m, (48 : Int32) + nI m = nI (48 + m) := fun m => by rw [show (48 : Int32) = nI 48 from rfl, nI_add]
    rw [u4, e48, e48]
    refine m_in_y (nI_nlt (by omega) (by omega)) (nI_nlt (by omega) (by omega)) (RI.mk (br_f (by decide) ?_))
    rintro _ rfl
    rw [h17, nI_1, show (48 : Int32) = nI 48 from rfl, pk_sub (by omega), show 48 + v - 48 = v by omega]
    exact h
theorem mfig_n (hs : RowsM 4 60 76 75 s M) (hk : ROk 4 60 s) (hr : r < 4) (hn : s.1 r = some n) (h16 : M.1 71 16 = nI r) (h17 : M.1 71 17 = nI p) (hp : p < 2 ^ 20) (h18 : M.1 71 18 = -9) {lo hi : Nat} (hlh : lo ≤ hi) (hl : hi ≤ 9) (hv : fgo (s.2 r) n p lo hi = none) (h : Q (some (.int 0)) (upI M 71 18 (nI p))) : C_X11_figure G (nI lo) (nI hi) M Q := by
  refine v_X11_figure (here_ok hs hk hr hn h16 h17 hp (RI.mk (br_t h18 ?_)))
  rcases fg_cho (f := s.2 r) (n := n) (p := p) hlh hl with ⟨a, b⟩ | ⟨u, u1, u2, u3, u4, u5⟩
  · have e48 : ∀ m, (48 : Int32) + nI m = nI (48 + m) := fun m => by rw [show (48 : Int32) = nI 48 from rfl, nI_add]
    rw [e48, e48]
    refine m_in_n b (RI.mk (br_t rfl ?_))
    rintro _ rfl
    rw [h17]
    exact h
  · rw [hv] at u5; cases u5
/-- where readGlove writes -/
def PG (z : Nat) (a k : Nat) : Prop := (a = 71 ∧ (k = 11 ∨ k = 17 ∨ k = 18)) ∨ (78 ≤ a ∧ a ≤ 81 ∧ k = z)
theorem rdGf_ok (hs : RowsM 4 60 76 75 s M) (hk : ROk 4 60 s) (hr : r < 4) (hn : s.1 r = some n) (h16 : M.1 71 16 = nI r) (h17 : M.1 71 17 = nI p) (hp : p < 2 ^ 20) (hf : ¬ p < n ∨ M.1 71 11 = 8) (h : Q none (upI M 71 18 (nI p))) : C_X11_readGlove G M Q := by
  refine v_X11_readGlove (here_ok hs hk hr hn h16 h17 hp (RI.mk (kindBy_ok (RI.mk ⟨fun c => ?_, fun c => ?_⟩))))
  · rintro _ rfl; rw [h17]; exact h
  · rcases hf with hf | hf
    · unfold cho at c
      rw [if_neg hf] at c
      exact absurd (by decide) c
    · refine br_t hf ?_
      rintro _ rfl; rw [h17]; exact h
theorem rdG_ok (hs : RowsM 4 60 76 75 s M) (hk : ROk 4 60 s) (hr : r < 4) (hn : s.1 r = some n) (h16 : M.1 71 16 = nI r) (h17 : M.1 71 17 = nI p) (hp : p < n) (h18 : M.1 71 18 = -9) {z : Nat} (hz : z < 8) (h11 : M.1 71 11 = nI z)
    (he : ∀ e M', rdG (s.2 r) n p = .error e → e < 2 ^ 20 → Eqv (PG z) M M' → M'.1 71 18 = nI e → Q none M')
    (ho : ∀ x M', rdG (s.2 r) n p = .ok x → Eqv (PG z) M M' → M'.1 71 17 = nI (p + 4) → M'.1 71 18 = -9 → M'.1 71 11 = nI (z + 1) → DrfM M' z x → Q none M') : C_X11_readGlove G M Q := by
  have h60 := hk r hr n hn
  refine v_X11_readGlove (here_ok hs hk hr hn h16 h17 (by omega) (RI.mk (kindBy_ok (RI.mk ?_))))
  have hc : cho (s.2 r) n p = s.2 r p := if_pos hp
  rw [hc, h11]
  unfold rdG at he ho
  rw [oI_n9 (fun v hv => by have := kdc_lt hv; omega)]
  refine ⟨fun c => ?_, fun c => ?_⟩
  · rintro _ rfl
    rw [h17]
    rw [c] at he
    exact he p _ rfl (by omega) (Eqv.rf.upI (by unfold PG; omega)) (upI_s _ _ _ _)
  obtain ⟨k, hkk⟩ := Option.ne_none_iff_exists'.mp c
  rw [hkk] at he ho ⊢
  simp only [] at he ho
  refine br_f (show ¬ nI z = nI 8 from fun q => by rw [nI_eq (by omega) (by decide)] at q; omega) ?_
  rintro _ rfl
  rw [upI_n _ _ (by omega), h11, h17, nI_1, ncl (by omega)]
  refine ⟨vin hz, ?_⟩
  rintro M1 e1
  have ev1 : Eqv (PG z) M M1 := by rw [e1]; exact (Eqv.rf.upI (by unfold PG; omega)).upI (by unfold PG; omega)
  have q1 : M1.1 71 17 = nI (p + 1) ∧ M1.1 71 18 = -9 ∧ M1.1 71 11 = nI z ∧ M1.1 71 16 = nI r ∧ M1.1 78 z = nI k := by
    rw [e1]
    refine ⟨?_, ?_, ?_, ?_, ?_⟩
    · rw [upI_n _ _ (by omega), upI_s]
    · rw [upI_n _ _ (by omega), upI_n _ _ (by omega)]; exact h18
    · rw [upI_n _ _ (by omega), upI_n _ _ (by omega)]; exact h11
    · rw [upI_n _ _ (by omega), upI_n _ _ (by omega)]; exact h16
    · rw [upI_s]; rfl
  clear e1
  obtain ⟨a1, a2, a3, a4, a5⟩ := q1
  have hs1 : RowsM 4 60 76 75 s M1 := hs.pl ev1 (by unfold PG; omega)
  -- once a fault stands the other two figures change nothing
  have two : ∀ (e : Nat) (M2 : Mem), (e < 2 ^ 20) → Eqv (PG z) M M2 → M2.1 71 16 = nI r → M2.1 71 17 = nI e → M2.1 71 18 = nI e → M2.1 71 11 = nI z → (∀ M', Eqv (PG z) M M' → M'.1 71 18 = nI e → Q none M') →
      WpM G 2 Y_X11_figure [.ref (ad G 71), .int 0, .int 9] M2 (RI fun r20 M19 => vp_in (M2.1 71 11) 8 ∧ ∀ M22 : Mem, M22 = upI M19 81 ((M2.1 71 11).toNatClampNeg) r20 → ∀ M23 : Mem, M23 = upI M22 71 11 ((M22.1 71 11) + 1) → Q none M23) := by
    intro e M2 heb ev b1 b2 b3 b4 hQ
    refine mfig_s (p := e) (hs.pl ev (by unfold PG; omega)) hk hr hn b1 b2 heb b3 (by omega) (RI.mk ?_)
    rw [b4, ncl (by omega)]
    refine ⟨vin hz, ?_⟩
    rintro _ rfl _ rfl
    refine hQ _ ((ev.upI (by unfold PG; omega)).upI (by unfold PG; omega)) ?_
    rw [upI_n _ _ (by omega), upI_n _ _ (by omega)]; exact b3
  cases hso : fgo (s.2 r) n (p + 1) 0 9 with
  | none =>
    rw [hso] at he
    refine mfig_n (lo := 0) (hi := 9) hs1 hk hr hn a4 a1 (by omega) a2 (by omega) (by omega) hso (RI.mk ?_)
    rw [a3, ncl (by omega)]
    refine ⟨vin hz, ?_⟩
    rintro M2 rfl
    have ev2 : Eqv (PG z) M (upI (upI M1 71 18 (nI (p + 1))) 79 z 0) := (ev1.upI (by unfold PG; omega)).upI (by unfold PG; omega)
    have b0 : (upI (upI M1 71 18 (nI (p + 1))) 79 z 0).1 71 11 = nI z := by rw [upI_n _ _ (by omega), upI_n _ _ (by omega)]; exact a3
    refine mfig_s (p := p + 1) (hs.pl ev2 (by unfold PG; omega)) hk hr hn (by rw [upI_n _ _ (by omega), upI_n _ _ (by omega)]; exact a4) (by rw [upI_n _ _ (by omega), upI_n _ _ (by omega)]; exact a1) (by omega) (e := p + 1) (by rw [upI_n _ _ (by omega), upI_s]) (by omega) (RI.mk ?_)
    rw [b0, ncl (by omega)]
    refine ⟨vin hz, ?_⟩
    rintro M3 e3
    have ev3 : Eqv (PG z) M M3 := by rw [e3]; exact ev2.upI (by unfold PG; omega)
    refine two (p + 1) M3 (by omega) ev3 ?_ ?_ ?_ ?_ fun M' v1 v2 => he (p + 1) M' rfl (by omega) v1 v2 <;> rw [e3]
    · rw [upI_n _ _ (by omega), upI_n _ _ (by omega), upI_n _ _ (by omega)]; exact a4
    · rw [upI_n _ _ (by omega), upI_n _ _ (by omega), upI_n _ _ (by omega)]; exact a1
    · rw [upI_n _ _ (by omega), upI_n _ _ (by omega), upI_s]
    · rw [upI_n _ _ (by omega)]; exact b0
  | some so =>
  rw [hso] at he ho
  simp only [] at he ho
  refine mfig_y (lo := 0) (hi := 9) hs1 hk hr hn a4 a1 (by omega) a2 (by omega) (by omega) hso (RI.mk ?_)
  rw [a3, ncl (by omega)]
  refine ⟨vin hz, ?_⟩
  rintro M2 e2
  have ev2 : Eqv (PG z) M M2 := by rw [e2]; exact (ev1.upI (by unfold PG; omega)).upI (by unfold PG; omega)
  have q2 : M2.1 71 17 = nI (p + 2) ∧ M2.1 71 18 = -9 ∧ M2.1 71 11 = nI z ∧ M2.1 71 16 = nI r ∧ M2.1 78 z = nI k ∧ M2.1 79 z = nI so := by
    rw [e2]
    refine ⟨?_, ?_, ?_, ?_, ?_, ?_⟩
    · rw [upI_n _ _ (by omega), upI_s]
    · rw [upI_n _ _ (by omega), upI_n _ _ (by omega)]; exact a2
    · rw [upI_n _ _ (by omega), upI_n _ _ (by omega)]; exact a3
    · rw [upI_n _ _ (by omega), upI_n _ _ (by omega)]; exact a4
    · rw [upI_n _ _ (by omega), upI_n _ _ (by omega)]; exact a5
    · rw [upI_s]
  clear e2
  obtain ⟨b1, b2, b3, b4, b5, b6⟩ := q2
  have hs2 : RowsM 4 60 76 75 s M2 := hs.pl ev2 (by unfold PG; omega)
  cases hhd : fgo (s.2 r) n (p + 2) 0 1 with
  | none =>
    rw [hhd] at he
    refine mfig_n (lo := 0) (hi := 1) hs2 hk hr hn b4 b1 (by omega) b2 (by omega) (by omega) hhd (RI.mk ?_)
    rw [b3, ncl (by omega)]
    refine ⟨vin hz, ?_⟩
    rintro M3 e3
    have ev3 : Eqv (PG z) M M3 := by rw [e3]; exact (ev2.upI (by unfold PG; omega)).upI (by unfold PG; omega)
    refine two (p + 2) M3 (by omega) ev3 ?_ ?_ ?_ ?_ fun M' v1 v2 => he (p + 2) M' rfl (by omega) v1 v2 <;> rw [e3]
    · rw [upI_n _ _ (by omega), upI_n _ _ (by omega)]; exact b4
    · rw [upI_n _ _ (by omega), upI_n _ _ (by omega)]; exact b1
    · rw [upI_n _ _ (by omega), upI_s]
    · rw [upI_n _ _ (by omega), upI_n _ _ (by omega)]; exact b3
  | some hd =>
  rw [hhd] at he ho
  simp only [] at he ho
  refine mfig_y (lo := 0) (hi := 1) hs2 hk hr hn b4 b1 (by omega) b2 (by omega) (by omega) hhd (RI.mk ?_)
  rw [b3, ncl (by omega)]
  refine ⟨vin hz, ?_⟩
  rintro M3 e3
  have ev3 : Eqv (PG z) M M3 := by rw [e3]; exact (ev2.upI (by unfold PG; omega)).upI (by unfold PG; omega)
  have q3 : M3.1 71 17 = nI (p + 3) ∧ M3.1 71 18 = -9 ∧ M3.1 71 11 = nI z ∧ M3.1 71 16 = nI r ∧ M3.1 78 z = nI k ∧ M3.1 79 z = nI so ∧ M3.1 80 z = nI hd := by
    rw [e3]
    refine ⟨?_, ?_, ?_, ?_, ?_, ?_, ?_⟩
    · rw [upI_n _ _ (by omega), upI_s]
    · rw [upI_n _ _ (by omega), upI_n _ _ (by omega)]; exact b2
    · rw [upI_n _ _ (by omega), upI_n _ _ (by omega)]; exact b3
    · rw [upI_n _ _ (by omega), upI_n _ _ (by omega)]; exact b4
    · rw [upI_n _ _ (by omega), upI_n _ _ (by omega)]; exact b5
    · rw [upI_n _ _ (by omega), upI_n _ _ (by omega)]; exact b6
    · rw [upI_s]
  clear e3
  obtain ⟨c1, c2, c3, c4, c5, c6, c7⟩ := q3
  have hs3 : RowsM 4 60 76 75 s M3 := hs.pl ev3 (by unfold PG; omega)
  cases hw : fgo (s.2 r) n (p + 3) 0 9 with
  | none =>
    rw [hw] at he
    refine mfig_n (lo := 0) (hi := 9) hs3 hk hr hn c4 c1 (by omega) c2 (by omega) (by omega) hw (RI.mk ?_)
    rw [c3, ncl (by omega)]
    refine ⟨vin hz, ?_⟩
    rintro _ rfl _ rfl
    refine he (p + 3) _ rfl (by omega) (((ev3.upI (by unfold PG; omega)).upI (by unfold PG; omega)).upI (by unfold PG; omega)) ?_
    rw [upI_n _ _ (by omega), upI_n _ _ (by omega), upI_s]
  | some w =>
  rw [hw] at he ho
  simp only [] at he ho
  refine mfig_y (lo := 0) (hi := 9) hs3 hk hr hn c4 c1 (by omega) c2 (by omega) (by omega) hw (RI.mk ?_)
  rw [c3, ncl (by omega)]
  refine ⟨vin hz, ?_⟩
  rintro _ rfl _ rfl
  refine ho (k, so, hd, w) _ rfl (((ev3.upI (by unfold PG; omega)).upI (by unfold PG; omega)).upI (by unfold PG; omega)) ?_ ?_ ?_ ⟨?_, ?_, ?_, ?_⟩
  · rw [upI_n _ _ (by omega), upI_n _ _ (by omega), upI_s]
  · rw [upI_n _ _ (by omega), upI_n _ _ (by omega), upI_n _ _ (by omega)]; exact c2
  · rw [upI_s, upI_n _ _ (by omega), upI_n _ _ (by omega), c3, nI_1]
  · rw [upI_n _ _ (by omega), upI_n _ _ (by omega), upI_n _ _ (by omega)]; exact c5
  · rw [upI_n _ _ (by omega), upI_n _ _ (by omega), upI_n _ _ (by omega)]; exact c6
  · rw [upI_n _ _ (by omega), upI_n _ _ (by omega), upI_n _ _ (by omega)]; exact c7
  · rw [upI_n _ _ (by omega), upI_s]
/-- where read writes -/
def PR (a k : Nat) : Prop := (a = 71 ∧ (k = 10 ∨ k = 11 ∨ k = 16 ∨ k = 17 ∨ k = 18)) ∨ (78 ≤ a ∧ a ≤ 81)
theorem read81_0 (h : Q none M) {x : Int32} : P_X11_read_81 G x 0 M Q := v_X11_read_81 (br_t rfl h)
theorem read81_ok (hk : ROk 4 60 s) (hr : r < 4) (hn : s.1 r = some n) (M0 : Mem) : ∀ (k z p : Nat) (g : Nat → Gs) (M : Mem), z + k = 8 → p < 1000 + z * 10 → (n ≤ p ∨ p ≤ n + 3) → RowsM 4 60 76 75 s M → Eqv PR M0 M → M.1 71 16 = nI r → M.1 71 17 = nI p → M.1 71 18 = -9 → M.1 71 11 = nI z → (∀ i, i < z → DrfM M i (g i)) →
    (∀ e M', rdL (s.2 r) n k z (skp (s.2 r) n p) g = .error e → Eqv PR M0 M' → M'.1 71 18 = nI e → e < 2 ^ 20 → Q none M') →
    (∀ z' g' M', rdL (s.2 r) n k z (skp (s.2 r) n p) g = .ok (z', g') → Eqv PR M0 M' → M'.1 71 18 = -9 → M'.1 71 10 = M.1 71 10 → M'.1 71 11 = nI z' → (∀ i, i < z' → DrfM M' i (g' i)) → Q none M') → P_X11_read_81 G (nI r) 1 M Q := by
  have h60 := hk r hr n hn
  intro k
  induction k with
  | zero =>
    intro z p g M hz hp hpn hs e h16 h17 h18 h11 hg he ho
    have : z = 8 := by omega
    subst this
    have sl := skp_le (s.2 r) n p
    unfold rdL at he ho
    refine v_X11_read_81 (br_f (by decide) (skip_ok hs hk hr hn h16 h17 (by omega) fun M1 e1 v1 => RV.mk ⟨vin hr, ?_⟩))
    have hs1 : RowsM 4 60 76 75 s M1 := hs.pl e1 (by omega)
    have g16 : M1.1 71 16 = nI r := by rw [e1.i (by omega)]; exact h16
    have g11 : M1.1 71 11 = nI 8 := by rw [e1.i (by omega)]; exact h11
    have ev1 : Eqv PR M0 M1 := e.tr (e1.mono (by unfold PR; omega))
    rw [ncl (by omega), v1, (hs1 r hr).1, hn, g11]
    refine ⟨fun c => ?_, fun c => ?_⟩
    · have c' : skp (s.2 r) n p < n := by rwa [show oS (some n) = nI n from rfl, nI_ltI (by omega) (by omega)] at c
      rw [if_pos c'] at he
      refine rdGf_ok hs1 hk hr hn g16 v1 (by omega) (Or.inr g11) (RV.mk ?_)
      rw [upI_s]
      exact br_f (nI_ne9 (by omega)) (read81_0 (he _ _ rfl (ev1.upI (by unfold PR; omega)) (upI_s _ _ _ _) (by omega)))
    · have c' : ¬ skp (s.2 r) n p < n := fun q => c (nI_lt q (by omega))
      rw [if_neg c'] at ho
      refine br_f (by decide) (read81_0 (ho 8 g M1 rfl ev1 (by rw [e1.i (by omega)]; exact h18) (by rw [e1.i (by omega)]) g11 fun i hi => ?_))
      obtain ⟨a, b, c, d⟩ := hg i hi
      exact ⟨by rw [e1.i (by omega)]; exact a, by rw [e1.i (by omega)]; exact b, by rw [e1.i (by omega)]; exact c, by rw [e1.i (by omega)]; exact d⟩
  | succ k ih =>
    intro z p g M hz hp hpn hs e h16 h17 h18 h11 hg he ho
    have sl := skp_le (s.2 r) n p
    unfold rdL at he ho
    refine v_X11_read_81 (br_f (by decide) (skip_ok hs hk hr hn h16 h17 (by omega) fun M1 e1 v1 => RV.mk ⟨vin hr, ?_⟩))
    have hs1 : RowsM 4 60 76 75 s M1 := hs.pl e1 (by omega)
    have g16 : M1.1 71 16 = nI r := by rw [e1.i (by omega)]; exact h16
    have g11 : M1.1 71 11 = nI z := by rw [e1.i (by omega)]; exact h11
    have g18 : M1.1 71 18 = -9 := by rw [e1.i (by omega)]; exact h18
    have ev1 : Eqv PR M0 M1 := e.tr (e1.mono (by unfold PR; omega))
    have hg1 : ∀ i, i < z → DrfM M1 i (g i) := fun i hi => by
      obtain ⟨a, b, c, d⟩ := hg i hi
      exact ⟨by rw [e1.i (by omega)]; exact a, by rw [e1.i (by omega)]; exact b, by rw [e1.i (by omega)]; exact c, by rw [e1.i (by omega)]; exact d⟩
    rw [ncl (by omega), v1, (hs1 r hr).1, hn, g11]
    refine ⟨fun c => ?_, fun c => ?_⟩
    · have c' : skp (s.2 r) n p < n := by rwa [show oS (some n) = nI n from rfl, nI_ltI (by omega) (by omega)] at c
      rw [if_pos c'] at he ho
      refine rdG_ok hs1 hk hr hn g16 v1 c' g18 (by omega) g11 (fun e2 M2 q2 qb ev2 w2 => RV.mk ?_) (fun x M2 q2 ev2 w17 w18 w11 wd => RV.mk ?_)
      · rw [q2] at he
        rw [w2]
        exact br_f (nI_ne9 (by omega)) (read81_0 (he e2 M2 rfl (ev1.tr (ev2.mono (by unfold PG PR; omega))) w2 qb))
      · rw [q2] at he ho
        simp only [] at he ho
        refine br_t w18 ?_
        have g10 : M2.1 71 10 = M.1 71 10 := by rw [ev2.i (by unfold PG; omega), e1.i (by omega)]
        rw [← g10] at ho
        refine ih (z + 1) _ (fu g z x) M2 (by omega) (by omega) (by omega) (hs1.pl ev2 (by unfold PG; omega)) (ev1.tr (ev2.mono (by unfold PG PR; omega))) (by rw [ev2.i (by unfold PG; omega)]; exact g16) w17 w18 w11 (fun i hi => ?_) he ho
        by_cases ei : i = z
        · subst ei; rw [fu_s]; exact wd
        · rw [fu_n _ _ ei]
          obtain ⟨a, b, c, d⟩ := hg1 i (by omega)
          exact ⟨by rw [ev2.i (by unfold PG; omega)]; exact a, by rw [ev2.i (by unfold PG; omega)]; exact b, by rw [ev2.i (by unfold PG; omega)]; exact c, by rw [ev2.i (by unfold PG; omega)]; exact d⟩
    · have c' : ¬ skp (s.2 r) n p < n := fun q => c (nI_lt q (by omega))
      rw [if_neg c'] at he ho
      refine ⟨fun d => ?_, fun d => ?_⟩
      · rw [show (0 : Int32) = nI 0 from rfl, nI_eq (by omega) (by decide)] at d
        rw [if_pos d] at he
        refine rdGf_ok hs1 hk hr hn g16 v1 (by omega) (Or.inl c') (RV.mk ?_)
        rw [upI_s]
        exact br_f (nI_ne9 (by omega)) (read81_0 (he _ _ rfl (ev1.upI (by unfold PR; omega)) (upI_s _ _ _ _) (by omega)))
      · rw [show (0 : Int32) = nI 0 from rfl, nI_eq (by omega) (by decide)] at d
        rw [if_neg d] at ho
        exact read81_0 (ho z g M1 rfl ev1 g18 (by rw [e1.i (by omega)]) g11 hg1)
theorem read_all (hs : RowsM 4 60 76 75 s M) (hk : ROk 4 60 s) (hr : r < 4) (hn : s.1 r = some n)
    (he : ∀ e M', rdT (s.2 r) n = .error e → Eqv PR M M' → M'.1 71 18 = nI e → e < 2 ^ 20 → Q none M')
    (ho : ∀ m z g M', rdT (s.2 r) n = .ok (m, z, g) → Eqv PR M M' → M'.1 71 18 = -9 → M'.1 71 10 = nI m → M'.1 71 11 = nI z → (∀ i, i < z → DrfM M' i (g i)) → Q none M') : C_X11_read G (nI r) M Q := by
  have h60 := hk r hr n hn
  refine v_X11_read ?_
  rintro _ rfl _ rfl _ rfl M4 e4
  have ev4 : Eqv PR M M4 := by rw [e4]; exact (((Eqv.rf.upI (by unfold PR; omega)).upI (by unfold PR; omega)).upI (by unfold PR; omega)).upI (by unfold PR; omega)
  have q4 : M4.1 71 16 = nI r ∧ M4.1 71 17 = nI 0 ∧ M4.1 71 18 = -9 ∧ M4.1 71 11 = nI 0 := by
    rw [e4]
    refine ⟨?_, ?_, ?_, ?_⟩
    · rw [upI_n _ _ (by omega), upI_n _ _ (by omega), upI_n _ _ (by omega), upI_s]
    · rw [upI_n _ _ (by omega), upI_n _ _ (by omega), upI_s]; rfl
    · rw [upI_n _ _ (by omega), upI_s]
    · rw [upI_s]; rfl
  clear e4
  obtain ⟨a1, a2, a3, a4⟩ := q4
  refine skip_ok (hs.pl ev4 (by unfold PR; omega)) hk hr hn a1 a2 (by omega) fun M5 e5 v5 => RV.mk ?_
  have ev5 : Eqv PR M M5 := ev4.tr (e5.mono (by unfold PR; omega))
  have hs5 : RowsM 4 60 76 75 s M5 := hs.pl ev5 (by unfold PR; omega)
  have b1 : M5.1 71 16 = nI r := by rw [e5.i (by omega)]; exact a1
  have b3 : M5.1 71 18 = -9 := by rw [e5.i (by omega)]; exact a3
  have b4 : M5.1 71 11 = nI 0 := by rw [e5.i (by omega)]; exact a4
  have sl := skp_le (s.2 r) n 0
  unfold rdT at he ho
  generalize skp (s.2 r) n 0 = q at *
  refine here_ok hs5 hk hr hn b1 v5 (by omega) (RI.mk ⟨fun c => ?_, fun c => ?_⟩)
  · have cq : q < n := by
      by_cases d : q < n
      · exact d
      · unfold cho at c; rw [if_neg d] at c; exact absurd c (by decide)
    have cd : s.2 r q = 100 := by unfold cho at c; rwa [if_pos cq] at c
    rw [if_pos ⟨cq, cd⟩] at he ho
    rintro M6 e6
    rw [v5, nI_1] at e6
    have ev6 : Eqv PR M M6 := by rw [e6]; exact ev5.upI (by unfold PR; omega)
    have hs6 : RowsM 4 60 76 75 s M6 := hs.pl ev6 (by unfold PR; omega)
    have c1 : M6.1 71 16 = nI r := by rw [e6, upI_n _ _ (by omega)]; exact b1
    have c2 : M6.1 71 17 = nI (q + 1) := by rw [e6, upI_s]
    have c3 : M6.1 71 18 = -9 := by rw [e6, upI_n _ _ (by omega)]; exact b3
    have c4 : M6.1 71 11 = nI 0 := by rw [e6, upI_n _ _ (by omega)]; exact b4
    clear e6
    cases hm : fgo (s.2 r) n (q + 1) 1 8 with
    | none =>
      rw [hm] at he
      refine mfig_n (lo := 1) (hi := 8) hs6 hk hr hn c1 c2 (by omega) c3 (by omega) (by omega) hm (RI.mk ?_)
      rintro _ rfl
      rw [upI_n _ _ (by omega), upI_s]
      exact br_f (nI_ne9 (by omega)) (read81_0 (he (q + 1) _ rfl ((ev6.upI (by unfold PR; omega)).upI (by unfold PR; omega)) (by rw [upI_n _ _ (by omega), upI_s]) (by omega)))
    | some m =>
      rw [hm] at he ho
      simp only [] at he ho
      refine mfig_y (lo := 1) (hi := 8) hs6 hk hr hn c1 c2 (by omega) c3 (by omega) (by omega) hm (RI.mk ?_)
      rintro M7 e7
      have ev7 : Eqv PR M M7 := by rw [e7]; exact (ev6.upI (by unfold PR; omega)).upI (by unfold PR; omega)
      have d1 : M7.1 71 16 = nI r := by rw [e7, upI_n _ _ (by omega), upI_n _ _ (by omega)]; exact c1
      have d2 : M7.1 71 17 = nI (q + 2) := by rw [e7, upI_n _ _ (by omega), upI_s]
      have d3 : M7.1 71 18 = -9 := by rw [e7, upI_n _ _ (by omega), upI_n _ _ (by omega)]; exact c3
      have d4 : M7.1 71 11 = nI 0 := by rw [e7, upI_n _ _ (by omega), upI_n _ _ (by omega)]; exact c4
      have d5 : M7.1 71 10 = nI m := by rw [e7, upI_s]
      clear e7
      refine br_t d3 ?_
      refine read81_ok hk hr hn M 8 0 (q + 2) (fun _ => (0, 0, 0, 0)) M7 rfl (by omega) (by omega) (hs.pl ev7 (by unfold PR; omega)) ev7 d1 d2 d3 d4 (fun i hi => absurd hi (Nat.not_lt_zero i)) (fun e8 M8 q8 w1 w2 w3 => ?_) (fun z g M8 q8 w1 w2 w3 w4 w5 => ?_)
      · exact he e8 M8 (by rw [q8]) w1 w2 w3
      · exact ho m z g M8 (by rw [q8]) w1 w2 (by rw [w3, d5]) w4 w5
  · have cn : ¬ (q < n ∧ s.2 r q = 100) := fun t => c (by unfold cho; rw [if_pos t.1]; exact t.2)
    rw [if_neg cn] at he
    rintro M6 e6
    rw [v5] at e6
    have ev6 : Eqv PR M M6 := by rw [e6]; exact ev5.upI (by unfold PR; omega)
    have hs6 : RowsM 4 60 76 75 s M6 := hs.pl ev6 (by unfold PR; omega)
    have c1 : M6.1 71 16 = nI r := by rw [e6, upI_n _ _ (by omega)]; exact b1
    have c2 : M6.1 71 17 = nI q := by rw [e6, upI_n _ _ (by omega)]; exact v5
    have c3 : M6.1 71 18 = nI q := by rw [e6, upI_s]
    clear e6
    refine mfig_s hs6 hk hr hn c1 c2 (by omega) c3 (by omega) (RI.mk ?_)
    rintro _ rfl
    rw [upI_n _ _ (by omega), c3]
    exact br_f (nI_ne9 (by omega)) (read81_0 (he q _ rfl (ev6.upI (by unfold PR; omega)) (by rw [upI_n _ _ (by omega)]; exact c3) (by omega)))
end RDM
