/-! promise 26: the reference goes through all rows -/
section DAZ
variable {G : Glob} {M : Mem} {Q : Option Value → Mem → Prop} {n : Nat} {S : St} {D : Dr}
def GsM (D : Dr) (W : Nat → Nat) (M : Mem) : Prop := ∀ i, i < dn D → GlM M i (gV D W i)
abbrev E87 : Mem → Mem → Prop := Eqv (fun a _ => a = 87)
theorem GsM.wr {W W' : Nat → Nat} {M1 : Mem} (h : GsM D W M) (e : E87 M M1) (hw : ∀ i, i < dn D → M1.1 87 i = nI (W' i)) : GsM D W' M1 := fun i hi => by
  obtain ⟨a, b, c, d, _⟩ := h i hi
  exact ⟨by rw [e.i (by omega)]; exact a, by rw [e.i (by omega)]; exact b, by rw [e.i (by omega)]; exact c, by rw [e.i (by omega)]; exact d, hw i hi⟩
theorem wv_24 (hk : DOk D) {W : Nat → Nat} (hw : ∀ i, W i < 64) {c : Nat} (h : c < tm D) : wv D W (tc D c) ≤ 24 := by
  obtain ⟨a, b, _⟩ := tc_ok h
  have := gw_lt (gV_ok hk (by omega) (hw _)) (gV_ok hk b (hw _)) (wv_gw (W := W) h)
  omega
theorem pw_le {m : Nat} (hm : m ≤ 28) {k : Nat} (hk : k ≤ 3) : m ^ k ≤ 21952 := by
  rcases Nat.eq_zero_or_pos m with z | z
  · subst z
    rcases k with _ | k
    · decide
    · rw [Nat.zero_pow (by omega)]; omega
  · exact Nat.le_trans (Nat.pow_le_pow_right z hk) (Nat.le_trans (Nat.pow_le_pow_left hm 3) (by decide))
/-- a figure of a row, as the reference reckons it -/
theorem fig_m {m k row : Nat} (hm : m ≤ 28) (h0 : 0 < m) (hk : k + 1 ≤ 3) (hr : row < 21953) : nI (m ^ (k + 1)) / nI m = nI (m ^ k) ∧ nI row / nI (m ^ k) - nI row / nI (m ^ k) / nI m * nI m = nI (row / m ^ k % m) ∧ ¬ nI m = 0 ∧ ¬ nI (m ^ k) = 0 ∧ row / m ^ k % m < m := by
  have p1 := pw_le hm (k := k) (by omega)
  have p2 := pw_le hm hk
  have p0 : 0 < m ^ k := Nat.pow_pos h0
  have p3 : row / m ^ k ≤ row := Nat.div_le_self _ _
  refine ⟨?_, ?_, nI_ne0 h0 (by omega), nI_ne0 p0 (by omega), Nat.mod_lt _ h0⟩
  · rw [pk_div (by omega) (by omega) (by omega), Nat.pow_succ, Nat.mul_div_cancel _ h0]
  · rw [pk_div (by omega) (by omega) (by omega), pk_rem (by omega) (by omega) (by omega)]
theorem sel_lt' {c : Nat → Option Nat} {B : Nat} (hc : ∀ j v, c j = some v → v < B) {j b m : Nat} (h : sel c j = some (b, m)) : b < j ∧ m < B := sel_lt hc j b m h
theorem sel_ne {c : Nat → Option Nat} {j v : Nat} (h : c j = some v) : sel c (j + 1) ≠ none := by
  rw [sel_s h]
  cases sel c j with
  | none => simp
  | some y => obtain ⟨b, m⟩ := y; simp only []; split <;> simp
theorem sel_bnd {c : Nat → Option Nat} : ∀ j b m, sel c j = some (b, m) → b < j
  | 0, b, m, h => by cases h
  | j + 1, b, m, h => by
    cases q : c j with
    | none => rw [sel_n q] at h; have := sel_bnd j b m h; omega
    | some v =>
      rw [sel_s q] at h
      cases q2 : sel c j with
      | none => rw [q2] at h; cases h; omega
      | some y =>
        obtain ⟨b', m'⟩ := y
        rw [q2] at h
        simp only [] at h
        have := sel_bnd j b' m' q2
        split at h
        · cases h; omega
        · cases h; omega
theorem SS_b (hk : DOk D) {n : Nat} (hn : n ≤ 3) (hm : n = 0 ∨ 0 < tm D) (row : Nat) : SS D n (W0 D) row < 1000 := by
  rcases hm with z | z
  · subst z; show 0 < 1000; omega
  · have := SS_le (de := 24) z (fun c hc => wv_24 hk (fun i => by
      have a2 : W0 D i ≤ (dL D).length := wrO_le _ _
      have a3 := hk.2.2.2.1
      omega) hc) row n (W0 D) fun i => Nat.le_refl _
    omega
/-- what each day gets -/
def dayR (s : RSt) (r : Nat) (f : Nat → Int32) : Nat → RSt
  | 0 => s
  | i + 1 => rWrt (dayR s r f i) r i (f i)
theorem dayR_1 (s : RSt) (r : Nat) (f : Nat → Int32) : ∀ i, (dayR s r f i).1 = s.1
  | 0 => rfl
  | i + 1 => dayR_1 s r f i
theorem dayR_ok {s : RSt} (h : ROk 6 40 s) (r : Nat) (f : Nat → Int32) (i : Nat) : ROk 6 40 (dayR s r f i) := by intro a ha m hm; rw [dayR_1] at hm; exact h a ha m hm
theorem c51_loop (hk0 : SOk S) {n r : Nat} {f : Nat → Int32} {v : Nat} (hn : n ≤ 3) (hr : r < 6) {s : RSt} (hs : ROk 6 40 s) (hsn : s.1 r = some n) :
    ∀ (k dd : Nat) (M : Mem), dd + k = n → RC (sR S (dayR s r f dd)) M → M.1 28 6 = nI v → (∀ d, d < n → M.1 35 d = f d) → (∀ M', EqC M M' → RC (sR S (dayR s r f n)) M' → Q (some (.int (nI v))) M') →
    P_X0_plan_51 G (nI n) (nI r) (nI dd) M Q := by
  intro k
  induction k with
  | zero =>
    intro dd M hdd hC h6 hf h
    have : dd = n := by omega
    subst this
    refine v_X0_plan_51 (br_f (nI_nlt (Nat.le_refl _) (by omega)) ?_)
    rw [h6]
    exact h M EqC.rf hC
  | succ k ih =>
    intro dd M hdd hC h6 hf h
    refine v_X0_plan_51 (br_t (nI_lt (by omega) (by omega)) ⟨vin (by omega), ?_⟩)
    rw [ncl (by omega), hf dd (by omega), nI_1 dd]
    refine c_wr (n := n) (S := sR S (dayR s r f dd)) (hk0.sR (dayR_ok hs r f dd)) hC hr (by show (dayR s r f dd).1 r = _; rw [dayR_1]; exact hsn) (by omega) fun hC1 => RV.mk ?_
    refine ih (dd + 1) _ (by omega) hC1 (by rw [upI_n _ _ (by omega)]; exact h6) (fun d hd => by rw [upI_n _ _ (by omega)]; exact hf d hd) fun M' g1 g2 => h M' ((EqC.rf.upI (by omega)).tr g1) g2
theorem RM.g87 {M1 : Mem} (hM : RM S M) (e : E87 M M1) (hG : GsM S.2.2.1 (W0 S.2.2.1) M1) : RM S M1 := by
  refine hM.sD (D := S.2.2.1) e (by omega) ?_
  obtain ⟨a, b, c, d, f⟩ := hM.2.2.1
  refine ⟨by rw [e.i (by omega)]; exact a, by rw [e.i (by omega)]; exact b, fun i hi => ⟨hG i hi, ?_⟩, by rw [e.i (by omega)]; exact d, f.eqv e (by omega)⟩
  rw [e.i (by omega)]
  exact (c i hi).2
theorem sel_pos (hm : n = 0 ∨ 0 < tm D) : ∃ b v, sel (FR D n) (tm D ^ n) = some (b, v) ∧ b < tm D ^ n := by
  have hp : 0 < tm D ^ n := by
    rcases hm with z | z
    · rw [z, Nat.pow_zero]; omega
    · exact Nat.pow_pos z
  have h1 := sel_ne (c := FR D n) (j := tm D ^ n - 1) rfl
  rw [show tm D ^ n - 1 + 1 = tm D ^ n by omega] at h1
  obtain ⟨⟨b, v⟩, hy⟩ := Option.ne_none_iff_exists'.mp h1
  exact ⟨b, v, hy, sel_bnd _ _ _ hy⟩
theorem c_plan (hk : SOk S) (hC : RC S M) {n r : Nat} (hn : n ≤ 3) (hr : r < 6) (h0 : tm S.2.2.1 = 0 → 0 < n → ∀ M', RC S M' → EqC M M' → Q (some (.int (-9))) M')
    (h1 : (n = 0 ∨ 0 < tm S.2.2.1) → ∀ M' b v, sel (FR S.2.2.1 n) (tm S.2.2.1 ^ n) = some (b, v) → RC (sR S (dayR (rBeg S.1 r n 0) r (fun d => cdI S.2.2.1 (fg3 S.2.2.1 n b d)) n)) M' → EqC M M' → Q (some (.int (nI v))) M') : C_X0_plan G (nI n) (nI r) M Q := by
  have h8 := hk.2.2.1.1
  have hT28 : tm S.2.2.1 ≤ 28 := twos_len h8
  refine v_X0_plan (gather_ok hk hC fun M1 e1 c1 l1 t1 d1 => RV.mk (br_f (nI_pos (by omega)) (br_f (show ¬ nI 3 < nI n from nI_nlt (by omega) (by omega)) ?_)))
  obtain ⟨de, d1, d2, d3⟩ := d1
  have v1 : EqC M M1 := e1.mono (by unfold PCa PGa; omega)
  have hC1 : RC S M1 := hC.scr hk (e1.mono (by unfold PCa PGa scrC; omega))
  have hdw : ∀ c, c < tm S.2.2.1 → wv S.2.2.1 (W0 S.2.2.1) (tc S.2.2.1 c) ≤ de := fun c hc => d3 _ (List.mem_of_getElem? (tc_get hc)) _ (wv_0 hc)
  have go : (n = 0 ∨ 0 < tm S.2.2.1) → ∀ M9 : Mem, M9 = upI M1 28 6 (-9 : Int32) → (WpM G 10 Y_X0_search [.ref (ad G 28), .int 0, .int (nI n), .int 0] M9 (RV (fun M10 => (WpM G 2 Y_X9_begin [.ref (ad G 1), .int (nI r), .int (nI n)] M10 (RV (fun M11 => P_X0_plan_51 G (nI n) (nI r) 0 M11 Q)))))) := fun hm M9 e9 => by
    have w9 : Eqv PS M1 M9 := by rw [e9]; exact Eqv.rf.upI (Or.inl ⟨rfl, rfl⟩)
    have hS : SrC S.2.2.1 de (W0 S.2.2.1) M9 := by
      refine ⟨by rw [w9.i (by unfold PS; omega)]; exact l1, by rw [w9.i (by unfold PS; omega)]; exact d1, fun c p hcp => by rw [w9.i (by unfold PS; omega)]; exact t1 c p hcp, fun i hi => ?_⟩
      refine (c1.2 i hi).1.eqv (P := fun a k => a = 28) (M := M1) ?_ (by omega)
      rw [e9]; exact Eqv.rf.upI rfl
    refine srch_ok hk.2.2.1 hn hm d2 hdw n 9 0 0 0 (W0 S.2.2.1) M9 _ (by omega) (by omega) hS (fun i => ⟨Nat.le_refl _, ?_⟩) (by omega) (fun row _ _ => ⟨(Nat.zero_add _).symm, fun t ht => absurd ht (Nat.not_lt_zero t)⟩) ?_ fun M10 e10 _ _ b10 => RV.mk ?_
    · have a2 : W0 S.2.2.1 i ≤ (dL S.2.2.1).length := wrO_le _ _
      have a3 := hk.2.2.1.2.2.2.1
      omega
    · rw [Nat.zero_mul]
      show M9.1 28 6 = -9
      rw [e9, upI_s]
    · rw [Nat.zero_mul, Nat.zero_add] at b10
      obtain ⟨b, v, hs, hb⟩ := sel_pos (D := S.2.2.1) hm
      rw [hs] at b10
      have hC10 : RC S M10 := hC1.scr hk ((w9.tr e10).mono (by unfold PS scrC; omega))
      refine begin_ok RPk.R hC10.1 hr (by omega) fun M11 e11 hr11 => RV.mk ?_
      have hC11 : RC (sR S (rBeg S.1 r n 0)) M11 := hC10.sR hk e11 (by omega) hr11
      refine c51_loop (f := fun d => cdI S.2.2.1 (fg3 S.2.2.1 n b d)) (v := v) hk hn hr (hk.1.beg (by omega) _) (fu_s _ _ _) n 0 M11 (by omega) hC11 (by rw [e11.i (by omega)]; exact b10.1) (fun d hd => by rw [e11.i (by omega)]; exact b10.2 d hd) fun M12 e12 hC12 => ?_
      exact h1 hm M12 b v hs hC12 (v1.tr (((w9.tr e10).mono (by unfold PS; omega)).tr ((e11.mono (by omega)).tr e12)))
  refine ⟨fun c => ⟨fun d => ?_, fun d => go (Or.inr ?_)⟩, fun c => go (Or.inl ?_)⟩
  · rw [l1] at d
    have d0 : tm S.2.2.1 = 0 := (nI_eq (by omega) (by omega)).mp d
    exact h0 d0 ((nI_ltI (a := 0) (by omega) (by omega)).mp c) M1 hC1 v1
  · rw [l1] at d
    rcases Nat.eq_zero_or_pos (tm S.2.2.1) with z | z
    · exact absurd (show nI (tm S.2.2.1) = 0 by rw [z]; rfl) d
    · exact z
  · rcases Nat.eq_zero_or_pos n with z | z
    · exact z
    · exact absurd (show (0 : Int32) < nI n from nI_lt (a := 0) z (by omega)) c
end DAZ
