/-! promises 29 to 32: a row of pairs -/
section GSS
variable {G : Glob} {M : Mem} {Q : Option Value → Mem → Prop} {S : St} {D : Dr} {i r n h : Nat}
theorem oSs (n : Nat) : oS (some n) = nI n := rfl
theorem nI_2p (p : Nat) : nI (2 * p) + 2 = nI (2 * (p + 1)) := by rw [show (2 : Int32) = nI 2 from rfl, nI_add]; rfl
theorem ix_no {x : Int32} {n j : Nat} (hn : n < 2 ^ 31) (hx : x < 0 ∨ nI n ≤ x) (hj : j < n) (e : x = nI j) : False := by
  subst e
  rcases hx with a | a
  · exact nI_pos (by omega) a
  · exact nI_ge hj hn a
/-- whom a pair speaks of -/
def jn (f : Nat → Int32) (p : Nat) : Nat := (f (2 * p)).toNatClampNeg
def wt1 (n i : Nat) (f : Nat → Int32) (p : Nat) : Prop := (jn f p < n ∧ jn f p ≠ i ∧ f (2 * p) = nI (jn f p)) ∧ (¬ f (2 * p + 1) < 0 ∨ f (2 * p + 1) = -9)
abbrev wtA (n i : Nat) (f : Nat → Int32) (h : Nat) : Prop := ∀ q, q < h → wt1 n i f q
theorem all_s {P : Nat → Prop} {p : Nat} (ha : ∀ q, q < p → P q) (h : P p) : ∀ q, q < p + 1 → P q := fun q hq => by
  by_cases c : q = p
  · rw [c]; exact h
  · exact ha q (by omega)
theorem iwt_loop (hk : SOk S) (hC : RC S M) (hi : i < dn S.2.2.1) (hr : r < 6) {h : Nat} (hn : S.1.1 r = some (2 * h)) (h1 : wtA (dn S.2.2.1) i (S.1.2 r) h → Q (some (.int 1)) M) (h0 : ¬ wtA (dn S.2.2.1) i (S.1.2 r) h → Q (some (.int 0)) M) :
    ∀ (k p : Nat), p + k = h → wtA (dn S.2.2.1) i (S.1.2 r) p → P_X5_isWellTold_3 G (nI i) (nI r) (nI (2 * p)) M Q := by
  have h8 := hk.2.2.1.1
  have h40 := hk.1 r hr _ hn
  intro k
  induction k with
  | zero =>
    intro p hp ha
    have : p = h := by omega
    subst this
    refine v_X5_isWellTold_3 (size_ok RPk.R hC.1 hr (RI.mk ?_))
    rw [hn, oSs, nI_1]
    exact br_f (nI_nlt (by omega) (by omega)) (h1 ha)
  | succ k ih =>
    intro p hp ha
    have ih1 := ih (p + 1) (by omega)
    refine v_X5_isWellTold_3 (size_ok RPk.R hC.1 hr (RI.mk ?_))
    rw [hn, oSs, nI_1, nI_2p]
    refine br_t (nI_lt (by omega) (by omega)) (read_ok RPk.R hC.1 hk.1 hr hn (i := 2 * p) (by omega) (RI.mk (read_ok RPk.R hC.1 hk.1 hr hn (i := 2 * p + 1) (by omega) (RI.mk ?_))))
    rcases ix3 (S.1.2 r (2 * p)) (n := dn S.2.2.1) (by omega) with hx | ⟨j, hj, ej⟩
    · refine has_n hC.nz hx (RI.mk (br_t rfl (h0 fun q => ?_)))
      have w := (q p (by omega)).1
      exact ix_no (by omega) hx w.1 w.2.2
    · have ejn : jn (S.1.2 r) p = j := by unfold jn; rw [ej, ncl (by omega)]
      rw [ej]
      refine has_y hC.nz h8 hj (RI.mk (br_f (by decide) ⟨fun c => h0 fun q => ?_, fun c => ?_⟩))
      · have w := (q p (by omega)).1.2.1
        rw [ejn] at w
        exact w ((nI_eq (by omega) (by omega)).mp c)
      · have cj : jn (S.1.2 r) p ≠ i := fun q => c (by rw [← ejn, q])
        have w1' : jn (S.1.2 r) p < dn S.2.2.1 ∧ jn (S.1.2 r) p ≠ i ∧ S.1.2 r (2 * p) = nI (jn (S.1.2 r) p) := ⟨by omega, cj, by rw [ejn, ej]⟩
        refine ⟨fun d => ⟨fun e => ih1 (all_s ha ⟨w1', Or.inr e⟩), fun e => h0 fun q => ?_⟩, fun d => ih1 (all_s ha ⟨w1', Or.inl d⟩)⟩
        exact (q p (by omega)).2.elim (fun a => a d) e
theorem jd0 (hk : SOk S) (hM : RM S M) (hi : i < dn S.2.2.1) (hr : r < 6) {h : Nat} (hn : S.1.1 r = some (2 * h)) (h0 : ∀ M', RM (sF S 3) M' → EqM M M' → Q (some (.int (-3))) M') :
    ∀ (k p : Nat), p + k = h → P_X11_judge_55 G (nI i) (nI r) 0 (nI (2 * p)) M Q := by
  have h40 := hk.1 r hr _ hn
  intro k
  induction k with
  | zero =>
    intro p hp
    have : p = h := by omega
    subst this
    refine v_X11_judge_55 ⟨vin hr, ?_⟩
    rw [ncl (by omega), mrow hM hr, hn, oSs]
    exact br_f (nI_nlt (by omega) (by omega)) (br_t rfl (m_refuse (f := 3) hM (by decide) (by decide) fun M' a b => RI.mk (h0 M' a b)))
  | succ k ih =>
    intro p hp
    have ih1 := ih (p + 1) (by omega)
    refine v_X11_judge_55 ⟨vin hr, ?_⟩
    rw [ncl (by omega), mrow hM hr, hn, oSs, ix40, nI_1, nI_2p]
    refine br_t (nI_lt (by omega) (by omega)) ⟨vin (by omega), fun _ _ => ⟨vin (by omega), fun _ _ => br_t rfl ih1⟩⟩
theorem jd1 (hk : SOk S) (hM : RM S M) (hi : i < dn S.2.2.1) (hr : r < 6) {h : Nat} (hn : S.1.1 r = some (2 * h)) (h1 : wtA (dn S.2.2.1) i (S.1.2 r) h → Q (some (.int 0)) M) (h0 : ¬ wtA (dn S.2.2.1) i (S.1.2 r) h → ∀ M', RM (sF S 3) M' → EqM M M' → Q (some (.int (-3))) M') :
    ∀ (k p : Nat), p + k = h → wtA (dn S.2.2.1) i (S.1.2 r) p → P_X11_judge_55 G (nI i) (nI r) 1 (nI (2 * p)) M Q := by
  have h8 := hk.2.2.1.1
  have h40 := hk.1 r hr _ hn
  intro k
  induction k with
  | zero =>
    intro p hp ha
    have : p = h := by omega
    subst this
    refine v_X11_judge_55 ⟨vin hr, ?_⟩
    rw [ncl (by omega), mrow hM hr, hn, oSs]
    exact br_f (nI_nlt (by omega) (by omega)) (br_f (by decide) (h1 ha))
  | succ k ih =>
    intro p hp ha
    have ih1 := ih (p + 1) (by omega)
    have z := fun q => jd0 (G := G) hk hM hi hr hn (h0 q) k (p + 1) (by omega)
    have f1 : M.1 73 (40 * r + 2 * p) = S.1.2 r (2 * p) := (hM.1 r hr).2 _ hn _ (by omega)
    have f2 : M.1 73 (40 * r + 2 * p + 1) = S.1.2 r (2 * p + 1) := (hM.1 r hr).2 _ hn (2 * p + 1) (by omega)
    refine v_X11_judge_55 ⟨vin hr, ?_⟩
    rw [ncl (by omega), mrow hM hr, hn, oSs, ix40, nI_1, nI_2p, ncl (by omega), ncl (by omega), f1, f2]
    refine br_t (nI_lt (by omega) (by omega)) ⟨vin (by omega), fun y ey => ⟨vin (by omega), fun y2 ey2 => br_f (by decide) ?_⟩⟩
    subst ey
    subst ey2
    rcases ix3 (S.1.2 r (2 * p)) (n := dn S.2.2.1) (by omega) with hx | ⟨j, hj, ej⟩
    · refine isG_n hM.nz h8 hx (RI.mk (br_t rfl (z fun q => ?_)))
      have w := (q p (by omega)).1
      exact ix_no (by omega) hx w.1 w.2.2
    · have ejn : jn (S.1.2 r) p = j := by unfold jn; rw [ej, ncl (by omega)]
      rw [ej]
      refine isG_y hM.nz h8 hj (RI.mk (br_f (by decide) ⟨fun c => z fun q => ?_, fun c => ?_⟩))
      · have w := (q p (by omega)).1.2.1
        rw [ejn] at w
        exact w ((nI_eq (by omega) (by omega)).mp c)
      · have cj : jn (S.1.2 r) p ≠ i := fun q => c (by rw [← ejn, q])
        have w1' : jn (S.1.2 r) p < dn S.2.2.1 ∧ jn (S.1.2 r) p ≠ i ∧ S.1.2 r (2 * p) = nI (jn (S.1.2 r) p) := ⟨by omega, cj, by rw [ejn, ej]⟩
        refine ⟨fun d => ⟨fun e => ih1 (all_s ha ⟨w1', Or.inr e⟩), fun e => z fun q => ?_⟩, fun d => ih1 (all_s ha ⟨w1', Or.inl d⟩)⟩
        exact (q p (by omega)).2.elim (fun a => a d) e
set_option maxRecDepth 100000 in
theorem odd_tab : ∀ n, n < 41 → (nI n - nI n / 2 * 2 = 0 ↔ n % 2 = 0) ∧ (nI n - nI n / 2 * 2 = 1 ↔ n % 2 = 1) := by decide +kernel
theorem refG_row (h : WpM G 4 Y_X10_refusedRow [.ref (ad G 0), .int (nI r)] M (RI fun r5 M4 => (r5 = 0 → WpM G 2 Y_X9_sizeOf [.ref (ad G 1), .int (nI r)] M4 (RI fun r8 M7 => ((r8 - r8 / 2 * 2) = 0 → WpM G 5 Y_X5_isWellTold [.ref (ad G 36), .ref (ad G 12), .int (nI i), .ref (ad G 1), .int (nI r)] M7 (RI fun r11 M10 => (r11 = 0 → WpM G 1 Y_X10_finds [.ref (ad G 0), .int 3] M10 (RI fun r14 M13 => Q (some (.int r14)) M13)) ∧ (¬ r11 = 0 → Q (some (.int 0)) M10))) ∧ (¬ (r8 - r8 / 2 * 2) = 0 → WpM G 1 Y_X10_finds [.ref (ad G 0), .int 5] M7 (RI fun r16 M15 => Q (some (.int r16)) M15)))) ∧ (¬ r5 = 0 → Q (some (.int r5)) M4))) (hz : M.1 12 2 = nI n) (hn : n ≤ 8) (hi : i < n) : C_X10_refusedGuess G (nI i) (nI r) M Q :=
  v_X10_refusedGuess (has_y hz hn hi (RI.mk (br_f (by decide) h)))
/-- both refuse alike, or neither does -/
theorem gs_or (hk : SOk S) (x y : Int32) :
    (∃ (v : Int32) (S' : St), SOk S' ∧ v < 0 ∧ ¬ v = 0 ∧ (∀ (M : Mem) (Q : Option Value → Mem → Prop), RC S M → (∀ M', RC S' M' → EqC M M' → Q (some (.int v)) M') → C_X10_refusedGuess G x y M Q) ∧ (∀ (M : Mem) (Q : Option Value → Mem → Prop), RM S M → (∀ M', RM S' M' → EqM M M' → Q (some (.int v)) M') → C_X11_judge G x y M Q)) ∨
    (∃ i r h : Nat, x = nI i ∧ i < dn S.2.2.1 ∧ y = nI r ∧ r < 6 ∧ S.1.1 r = some (2 * h) ∧ wtA (dn S.2.2.1) i (S.1.2 r) h ∧ (∀ (M : Mem) (Q : Option Value → Mem → Prop), RC S M → Q (some (.int 0)) M → C_X10_refusedGuess G x y M Q) ∧ (∀ (M : Mem) (Q : Option Value → Mem → Prop), RM S M → Q (some (.int 0)) M → C_X11_judge G x y M Q)) := by
  have h8 := hk.2.2.1.1
  rcases ix3 x (n := dn S.2.2.1) (by omega) with hx | ⟨i, hi, rfl⟩
  · refine Or.inl ⟨-1, S, hk, by decide, by decide, fun M Q hC h => ?_, fun M Q hM h => ?_⟩
    · exact v_X10_refusedGuess (has_n hC.nz hx (RI.mk (br_t rfl (h M hC Eqv.rf))))
    · exact v_X11_judge (isG_n hM.nz h8 hx (RI.mk (br_t rfl (h M hM Eqv.rf))))
  rcases ix3 y (n := 6) (by decide) with hy | ⟨r, hr, rfl⟩
  · refine Or.inl ⟨-1, S, hk, by decide, by decide, fun M Q hC h => ?_, fun M Q hM h => ?_⟩
    · exact v_X10_refusedGuess (has_y hC.nz h8 hi (RI.mk (br_f (by decide) (c_refRow_n hy (RI.mk (br_f (by decide) (h M hC Eqv.rf)))))))
    · exact v_X11_judge (isG_y hM.nz h8 hi (RI.mk (br_f (by decide) (m_row_n hy (RI.mk (br_t rfl (h M hM Eqv.rf)))))))
  cases hn : S.1.1 r with
  | none =>
    refine Or.inl ⟨-3, sF S 1, hk.sF 1, by decide, by decide, fun M Q hC h => ?_, fun M Q hM h => ?_⟩
    · exact refG_row (c_refRow_m hk hC hr hn fun M' a b => RI.mk (br_f (by decide) (h M' a b))) hC.nz h8 hi
    · refine v_X11_judge (isG_y hM.nz h8 hi (RI.mk (br_f (by decide) (m_row_y hr (RI.mk (br_f (by decide) ⟨vin hr, ?_⟩))))))
      rw [ncl (by omega), mrow hM hr, hn]
      exact br_t m1_neg (m_refuse (f := 1) hM (by decide) (by decide) fun M' a b => RI.mk (h M' a b))
  | some n =>
    have h40 := hk.1 r hr n hn
    obtain ⟨t0, t1⟩ := odd_tab n (by omega)
    by_cases e : n % 2 = 1
    · refine Or.inl ⟨-3, sF S 5, hk.sF 5, by decide, by decide, fun M Q hC h => ?_, fun M Q hM h => ?_⟩
      · refine refG_row (c_refRow_y hk hC hr hn (RI.mk (br_t rfl (size_ok RPk.R hC.1 hr (RI.mk ?_))))) hC.nz h8 hi
        rw [hn, oSs]
        exact br_f (fun q => by have := t0.mp q; omega) (c_finds (f := 5) hk hC (by decide) (by decide) fun M' a b => RI.mk (h M' a b))
      · refine v_X11_judge (isG_y hM.nz h8 hi (RI.mk (br_f (by decide) (m_row_y hr (RI.mk (br_f (by decide) ⟨vin hr, ?_⟩))))))
        rw [ncl (by omega), mrow hM hr, hn]
        refine br_f (oSn_nneg (by omega)) ⟨vin hr, ?_⟩
        rw [oSs]
        exact br_t (t1.mpr e) (m_refuse (f := 5) hM (by decide) (by decide) fun M' a b => RI.mk (h M' a b))
    · have e0 : n = 2 * (n / 2) := by omega
      have e1 : n % 2 = 0 := by omega
      have hn' : S.1.1 r = some (2 * (n / 2)) := by rw [← e0]; exact hn
      have CC : ∀ (M : Mem) (Q : Option Value → Mem → Prop), RC S M → (wtA (dn S.2.2.1) i (S.1.2 r) (n / 2) → Q (some (.int 0)) M) → (¬ wtA (dn S.2.2.1) i (S.1.2 r) (n / 2) → ∀ M', RC (sF S 3) M' → EqC M M' → Q (some (.int (-3))) M') → C_X10_refusedGuess G (nI i) (nI r) M Q := fun M Q hC k1 k0 => by
        refine refG_row (c_refRow_y hk hC hr hn (RI.mk (br_t rfl (size_ok RPk.R hC.1 hr (RI.mk ?_))))) hC.nz h8 hi
        rw [hn, oSs]
        refine br_t (t0.mpr e1) (v_X5_isWellTold (iwt_loop hk hC hi hr hn' (fun a => RI.mk (br_f (by decide) (k1 a))) (fun a => RI.mk (br_t rfl ?_)) (n / 2) 0 (by omega) (fun q hq => absurd hq (Nat.not_lt_zero q))))
        exact c_finds (f := 3) hk hC (by decide) (by decide) fun M' b c => RI.mk (k0 a M' b c)
      have MM : ∀ (M : Mem) (Q : Option Value → Mem → Prop), RM S M → (wtA (dn S.2.2.1) i (S.1.2 r) (n / 2) → Q (some (.int 0)) M) → (¬ wtA (dn S.2.2.1) i (S.1.2 r) (n / 2) → ∀ M', RM (sF S 3) M' → EqM M M' → Q (some (.int (-3))) M') → C_X11_judge G (nI i) (nI r) M Q := fun M Q hM k1 k0 => by
        refine v_X11_judge (isG_y hM.nz h8 hi (RI.mk (br_f (by decide) (m_row_y hr (RI.mk (br_f (by decide) ⟨vin hr, ?_⟩))))))
        rw [ncl (by omega), mrow hM hr, hn]
        refine br_f (oSn_nneg (by omega)) ⟨vin hr, ?_⟩
        rw [oSs]
        exact br_f (fun q => e (t1.mp q)) (jd1 hk hM hi hr hn' k1 k0 (n / 2) 0 (by omega) (fun q hq => absurd hq (Nat.not_lt_zero q)))
      by_cases w : wtA (dn S.2.2.1) i (S.1.2 r) (n / 2)
      · exact Or.inr ⟨i, r, n / 2, rfl, hi, rfl, hr, hn', w, fun M Q hC h => CC M Q hC (fun _ => h) (fun a => absurd w a), fun M Q hM h => MM M Q hM (fun _ => h) (fun a => absurd w a)⟩
      · exact Or.inl ⟨-3, sF S 3, hk.sF 3, by decide, by decide, fun M Q hC h => CC M Q hC (fun a => absurd a w) (fun _ => h), fun M Q hM h => MM M Q hM (fun a => absurd a w) (fun _ => h)⟩
end GSS
