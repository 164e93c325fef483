/-! promises 29 to 32: a row of pairs -/
section GSS
variable {G : Glob} {M : Mem} {Q : Option Value → Mem → Prop} {S : St} {D : Dr} {i r n h : Nat}
theorem oSs (n : Nat) : oS (some n) = nI n := rfl
theorem nI_2p (p : Nat) : nI (2 * p) + 2 = nI (2 * (p + 1)) := by rw [show (2 : Int32) = nI 2 from rfl, nI_add]; rfl
theorem ix_no {x : Int32} {n j : Nat} (hn : n < 2 ^ 31) (hx : x < 0 ∨ nI n ≤ x) (hj : j < n) (e : x = nI j) : False := by
  subst e
  rcases hx with a | a
  · exact nI_pos (by omega) a
  · exact nI_ge hj hn a
/-- whom a pair speaks of -/
def jn (f : Nat → Int32) (p : Nat) : Nat := (f (2 * p)).toNatClampNeg
def wt1 (n i : Nat) (f : Nat → Int32) (p : Nat) : Prop := (jn f p < n ∧ jn f p ≠ i ∧ f (2 * p) = nI (jn f p)) ∧ (¬ f (2 * p + 1) < 0 ∨ f (2 * p + 1) = -9)
abbrev wtA (n i : Nat) (f : Nat → Int32) (h : Nat) : Prop := ∀ q, q < h → wt1 n i f q
theorem all_s {P : Nat → Prop} {p : Nat} (ha : ∀ q, q < p → P q) (h : P p) : ∀ q, q < p + 1 → P q := fun q hq => by
  by_cases c : q = p
  · rw [c]; exact h
  · exact ha q (by omega)
theorem iwt_loop (hk : SOk S) (hC : RC S M) (hi : i < dn S.2.2.1) (hr : r < 6) {h : Nat} (hn : S.1.1 r = some (2 * h)) (h1 : wtA (dn S.2.2.1) i (S.1.2 r) h → Q (some (.int 1)) M) (h0 : ¬ wtA (dn S.2.2.1) i (S.1.2 r) h → Q (some (.int 0)) M) :
    ∀ (k p : Nat), p + k = h → wtA (dn S.2.2.1) i (S.1.2 r) p → P_X5_isWellTold_3 G (nI i) (nI r) (nI (2 * p)) M Q := by
  have h8 := hk.2.2.1.1
  have h40 := hk.1 r hr _ hn
  intro k
  induction k with
  | zero =>
    intro p hp ha
    have : p = h := by omega
    subst this
    refine v_X5_isWellTold_3 (size_ok RPk.R hC.1 hr (RI.mk ?_))
    rw [hn, oSs, nI_1]
    exact br_f (nI_nlt (by omega) (by omega)) (h1 ha)
  | succ k ih =>
    intro p hp ha
    have ih1 := ih (p + 1) (by omega)
    refine v_X5_isWellTold_3 (size_ok RPk.R hC.1 hr (RI.mk ?_))
    rw [hn, oSs, nI_1, nI_2p]
    refine br_t (nI_lt (by omega) (by omega)) (read_ok RPk.R hC.1 hk.1 hr hn (i := 2 * p) (by omega) (RI.mk (read_ok RPk.R hC.1 hk.1 hr hn (i := 2 * p + 1) (by omega) (RI.mk ?_))))
    rcases ix3 (S.1.2 r (2 * p)) (n := dn S.2.2.1) (by omega) with hx | ⟨j, hj, ej⟩
    · refine has_n hC.nz hx (RI.mk (br_t rfl (h0 fun q => ?_)))
      have w := (q p (by omega)).1
      exact ix_no (by omega) hx w.1 w.2.2
    · have ejn : jn (S.1.2 r) p = j := by unfold jn; rw [ej, ncl (by omega)]
      rw [ej]
      refine has_y hC.nz h8 hj (RI.mk (br_f (by decide) ⟨fun c => h0 fun q => ?_, fun c => ?_⟩))
      · have w := (q p (by omega)).1.2.1
        rw [ejn] at w
        exact w ((nI_eq (by omega) (by omega)).mp c)
      · have cj : jn (S.1.2 r) p ≠ i := fun q => c (by rw [← ejn, q])
        have w1' : jn (S.1.2 r) p < dn S.2.2.1 ∧ jn (S.1.2 r) p ≠ i ∧ S.1.2 r (2 * p) = nI (jn (S.1.2 r) p) := ⟨by omega, cj, by rw [ejn, ej]⟩
        refine ⟨fun d => ⟨fun e => ih1 (all_s ha ⟨w1', Or.inr e⟩), fun e => h0 fun q => ?_⟩, fun d => ih1 (all_s ha ⟨w1', Or.inl d⟩)⟩
        exact (q p (by omega)).2.elim (fun a => a d) e
set_option maxRecDepth 100000 in
theorem odd_tab : ∀ n, n < 41 → (nI n - nI n / 2 * 2 = 0 ↔ n % 2 = 0) ∧ (nI n - nI n / 2 * 2 = 1 ↔ n % 2 = 1) := by decide +kernel
theorem refG_row (h : WpM G 4 Y_X10_refusedRow [.ref (ad G 0), .int (nI r)] M (RI fun r5 M4 => (r5 = 0 → WpM G 2 Y_X9_sizeOf [.ref (ad G 1), .int (nI r)] M4 (RI fun r8 M7 => ((r8 - r8 / 2 * 2) = 0 → WpM G 5 Y_X5_isWellTold [.ref (ad G 36), .ref (ad G 12), .int (nI i), .ref (ad G 1), .int (nI r)] M7 (RI fun r11 M10 => (r11 = 0 → WpM G 1 Y_X10_finds [.ref (ad G 0), .int 3] M10 (RI fun r14 M13 => Q (some (.int r14)) M13)) ∧ (¬ r11 = 0 → Q (some (.int 0)) M10))) ∧ (¬ (r8 - r8 / 2 * 2) = 0 → WpM G 1 Y_X10_finds [.ref (ad G 0), .int 5] M7 (RI fun r16 M15 => Q (some (.int r16)) M15)))) ∧ (¬ r5 = 0 → Q (some (.int r5)) M4))) (hz : M.1 12 2 = nI n) (hn : n ≤ 8) (hi : i < n) : C_X10_refusedGuess G (nI i) (nI r) M Q :=
  v_X10_refusedGuess (has_y hz hn hi (RI.mk (br_f (by decide) h)))
end GSS
