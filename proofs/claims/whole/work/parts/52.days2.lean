/-! promise 26: the reference goes through all rows -/
section DAZ
variable {G : Glob} {M : Mem} {Q : Option Value → Mem → Prop} {n : Nat} {S : St} {D : Dr}
def GsM (D : Dr) (W : Nat → Nat) (M : Mem) : Prop := ∀ i, i < dn D → GlM M i (gV D W i)
abbrev E87 : Mem → Mem → Prop := Eqv (fun a _ => a = 87)
theorem GsM.wr {W W' : Nat → Nat} {M1 : Mem} (h : GsM D W M) (e : E87 M M1) (hw : ∀ i, i < dn D → M1.1 87 i = nI (W' i)) : GsM D W' M1 := fun i hi => by
  obtain ⟨a, b, c, d, _⟩ := h i hi
  exact ⟨by rw [e.i (by omega)]; exact a, by rw [e.i (by omega)]; exact b, by rw [e.i (by omega)]; exact c, by rw [e.i (by omega)]; exact d, hw i hi⟩
theorem wv_24 (hk : DOk D) {W : Nat → Nat} (hw : ∀ i, W i < 64) {c : Nat} (h : c < tm D) : wv D W (tc D c) ≤ 24 := by
  obtain ⟨a, b, _⟩ := tc_ok h
  have := gw_lt (gV_ok hk (by omega) (hw _)) (gV_ok hk b (hw _)) (wv_gw (W := W) h)
  omega
theorem use_ok (hk : DOk D) {W : Nat → Nat} (hw : ∀ i, W i < 63) {c : Nat} (hc : c < tm D) (hG : GsM D W M) (h : ∀ M', E87 M M' → GsM D (inc W (tc D c)) M' → Q (some (.int (nI (wv D W (tc D c))))) M') : C_X11_useOf G (cdI D c) M Q := by
  have h8 := hk.1
  obtain ⟨p1, p2, _⟩ := tc_ok hc
  obtain ⟨x1, x2⟩ := pk10 (a := (tc D c).1) (b := (tc D c).2) (by omega) (by omega)
  have hw1 := hw (tc D c).1
  have hw2 := hw (tc D c).2
  refine v_X11_useOf ?_
  show WpM G 4 Y_X11_pairOf [.ref (ad G 71), .int (nI (10 * (tc D c).1 + (tc D c).2) / 10), .int (nI (10 * (tc D c).1 + (tc D c).2) - nI (10 * (tc D c).1 + (tc D c).2) / 10 * 10)] M (RI (fun r2 M1 => (vp_in (nI (10 * (tc D c).1 + (tc D c).2) / 10) 8 ∧ (vp_in (nI (10 * (tc D c).1 + (tc D c).2) / 10) 8 ∧ (∀ M5 : Mem, M5 = upI M1 87 ((nI (10 * (tc D c).1 + (tc D c).2) / 10).toNatClampNeg) ((M1.1 87 (nI (10 * (tc D c).1 + (tc D c).2) / 10).toNatClampNeg) + 1) → (vp_in (nI (10 * (tc D c).1 + (tc D c).2) - nI (10 * (tc D c).1 + (tc D c).2) / 10 * 10) 8 ∧ (vp_in (nI (10 * (tc D c).1 + (tc D c).2) - nI (10 * (tc D c).1 + (tc D c).2) / 10 * 10) 8 ∧ (∀ M8 : Mem, M8 = upI M5 87 ((nI (10 * (tc D c).1 + (tc D c).2) - nI (10 * (tc D c).1 + (tc D c).2) / 10 * 10).toNatClampNeg) ((M5.1 87 (nI (10 * (tc D c).1 + (tc D c).2) - nI (10 * (tc D c).1 + (tc D c).2) / 10 * 10).toNatClampNeg) + 1) → Q (some (.int r2)) M8))))))))
  rw [x2, x1, ncl (by omega), ncl (by omega)]
  refine m_pairOf_ok (by omega) (by omega) (gV_ok hk (by omega) (by omega)) (gV_ok hk p2 (by omega)) (hG _ (by omega)) (hG _ p2) (RI.mk ⟨vin (by omega), vin (by omega), ?_⟩)
  rw [(hG _ (by omega : (tc D c).1 < dn D)).2.2.2.2, nI_1]
  rintro M5 e5
  refine ⟨vin (by omega), vin (by omega), ?_⟩
  have u5 : M5.1 87 (tc D c).2 = nI (W (tc D c).2) := by rw [e5, upI_n _ _ (by omega)]; exact (hG _ p2).2.2.2.2
  rw [u5, nI_1]
  rintro M6 e6
  rw [wv_gw hc, oI_some]
  have v6 : E87 M M6 := by rw [e6, e5]; exact (Eqv.rf.upI (by omega)).upI (by omega)
  refine h M6 v6 (hG.wr v6 fun i hi => ?_)
  by_cases a2 : i = (tc D c).2
  · rw [inc_y (Or.inr a2), a2, e6, upI_s]
  · rw [e6, upI_n _ _ (by omega), e5]
    by_cases a1 : i = (tc D c).1
    · rw [inc_y (Or.inl a1), a1, upI_s]; rfl
    · rw [inc_n (by omega), upI_n _ _ (by omega)]; exact (hG i hi).2.2.2.2
theorem off_ok (hk : DOk D) {W : Nat → Nat} (hw : ∀ i, W i < 63) {c : Nat} (hc : c < tm D) (hG : GsM D (inc W (tc D c)) M) (h : ∀ M', E87 M M' → GsM D W M' → Q none M') : C_X11_takeOff G (cdI D c) M Q := by
  have h8 := hk.1
  obtain ⟨p1, p2, _⟩ := tc_ok hc
  obtain ⟨x1, x2⟩ := pk10 (a := (tc D c).1) (b := (tc D c).2) (by omega) (by omega)
  refine v_X11_takeOff ?_
  show (vp_in (nI (10 * (tc D c).1 + (tc D c).2) / 10) 8 ∧ (vp_in (nI (10 * (tc D c).1 + (tc D c).2) / 10) 8 ∧ (∀ M3 : Mem, M3 = upI M 87 ((nI (10 * (tc D c).1 + (tc D c).2) / 10).toNatClampNeg) ((M.1 87 (nI (10 * (tc D c).1 + (tc D c).2) / 10).toNatClampNeg) - 1) → (vp_in (nI (10 * (tc D c).1 + (tc D c).2) - nI (10 * (tc D c).1 + (tc D c).2) / 10 * 10) 8 ∧ (vp_in (nI (10 * (tc D c).1 + (tc D c).2) - nI (10 * (tc D c).1 + (tc D c).2) / 10 * 10) 8 ∧ (∀ M6 : Mem, M6 = upI M3 87 ((nI (10 * (tc D c).1 + (tc D c).2) - nI (10 * (tc D c).1 + (tc D c).2) / 10 * 10).toNatClampNeg) ((M3.1 87 (nI (10 * (tc D c).1 + (tc D c).2) - nI (10 * (tc D c).1 + (tc D c).2) / 10 * 10).toNatClampNeg) - 1) → Q none M6))))))
  have u0 : M.1 87 (tc D c).1 = nI (W (tc D c).1 + 1) := by rw [(hG _ (by omega : (tc D c).1 < dn D)).2.2.2.2]; show nI (inc W (tc D c) (tc D c).1) = _; rw [inc_y (Or.inl rfl)]
  rw [x2, x1, ncl (by omega), ncl (by omega), u0, nI_pred]
  refine ⟨vin (by omega), vin (by omega), ?_⟩
  rintro M5 e5
  refine ⟨vin (by omega), vin (by omega), ?_⟩
  have u5 : M5.1 87 (tc D c).2 = nI (W (tc D c).2 + 1) := by rw [e5, upI_n _ _ (by omega), (hG _ p2).2.2.2.2]; show nI (inc W (tc D c) (tc D c).2) = _; rw [inc_y (Or.inr rfl)]
  rw [u5, nI_pred]
  rintro M6 e6
  have v6 : E87 M M6 := by rw [e6, e5]; exact (Eqv.rf.upI (by omega)).upI (by omega)
  refine h M6 v6 (hG.wr v6 fun i hi => ?_)
  by_cases a2 : i = (tc D c).2
  · rw [a2, e6, upI_s]
  · rw [e6, upI_n _ _ (by omega), e5]
    by_cases a1 : i = (tc D c).1
    · rw [a1, upI_s]
    · rw [upI_n _ _ (by omega), (hG i hi).2.2.2.2]; show nI (inc W (tc D c) i) = _; rw [inc_n (by omega)]
theorem pw_le {m : Nat} (hm : m ≤ 28) {k : Nat} (hk : k ≤ 3) : m ^ k ≤ 21952 := by
  rcases Nat.eq_zero_or_pos m with z | z
  · subst z
    rcases k with _ | k
    · decide
    · rw [Nat.zero_pow (by omega)]; omega
  · exact Nat.le_trans (Nat.pow_le_pow_right z hk) (Nat.le_trans (Nat.pow_le_pow_left hm 3) (by decide))
/-- a figure of a row, as the reference reckons it -/
theorem fig_m {m k row : Nat} (hm : m ≤ 28) (h0 : 0 < m) (hk : k + 1 ≤ 3) (hr : row < 21953) : nI (m ^ (k + 1)) / nI m = nI (m ^ k) ∧ nI row / nI (m ^ k) - nI row / nI (m ^ k) / nI m * nI m = nI (row / m ^ k % m) ∧ ¬ nI m = 0 ∧ ¬ nI (m ^ k) = 0 ∧ row / m ^ k % m < m := by
  have p1 := pw_le hm (k := k) (by omega)
  have p2 := pw_le hm hk
  have p0 : 0 < m ^ k := Nat.pow_pos h0
  have p3 : row / m ^ k ≤ row := Nat.div_le_self _ _
  refine ⟨?_, ?_, nI_ne0 h0 (by omega), nI_ne0 p0 (by omega), Nat.mod_lt _ h0⟩
  · rw [pk_div (by omega) (by omega) (by omega), Nat.pow_succ, Nat.mul_div_cancel _ h0]
  · rw [pk_div (by omega) (by omega) (by omega), pk_rem (by omega) (by omega) (by omega)]
theorem m95_loop (hk : DOk D) {n row : Nat} (hn : n ≤ 3) (hm : n = 0 ∨ 0 < tm D) (hr : row < 21953) {x2 x3 x4 x5 : Int32} (M0 : Mem) (hz : M0.1 71 34 = nI (tm D)) (hT : TwA 93 (twos D) M0)
    (h : ∀ M', E87 M0 M' → GsM D (WS D n (W0 D) row) M' → P_X11_days_146 G (nI n) x2 x3 x4 x5 (nI row) (nI (SS D n (W0 D) row)) x3 0 M' Q) :
    ∀ (k dd sum : Nat) (W : Nat → Nat) (M : Mem), dd + k = n → E87 M0 M → GsM D W M → (∀ i, W i ≤ 40 + dd) → sum ≤ 24 * dd → SS D n (W0 D) row = sum + SS D k W row → WS D n (W0 D) row = WS D k W row → P_X11_days_95 G (nI n) x2 x3 x4 x5 (nI row) (nI sum) (nI (tm D ^ k)) (nI dd) M Q := by
  have h8 := hk.1
  have hT28 : tm D ≤ 28 := twos_len h8
  intro k
  induction k with
  | zero =>
    intro dd sum W M hdd e hG hW hs h1 h2
    have : dd = n := by omega
    subst this
    refine v_X11_days_95 (br_f (nI_nlt (Nat.le_refl _) (by omega)) ?_)
    rw [show sum = SS D dd (W0 D) row by rw [h1]; rfl]
    exact h M e (by rw [h2]; exact hG)
  | succ k ih =>
    intro dd sum W M hdd e hG hW hs h1 h2
    have h0 : 0 < tm D := by rcases hm with z | z <;> omega
    obtain ⟨f1, f2, f3, f4, f5⟩ := fig_m hT28 h0 (k := k) (by omega) hr
    refine v_X11_days_95 (br_t (nI_lt (by omega) (by omega)) ?_)
    rw [e.i (by omega), hz, f1, f2, ncl (by omega), e.i (by omega), hT _ _ (tc_get f5), nI_1 dd]
    refine ⟨f3, f4, f3, vin (by omega), ?_⟩
    refine use_ok hk (W := W) (fun i => by have := hW i; omega) f5 hG fun M1 e1 hG1 => RI.mk ?_
    have hw := wv_24 hk (W := W) (fun i => by have := hW i; omega) f5
    rw [nI_add]
    refine ih (dd + 1) _ (inc W (tc D (row / tm D ^ k % tm D))) M1 (by omega) (e.tr e1) hG1 (fun i => ?_) (by omega) ?_ h2
    · have := inc_le (W := W) (p := tc D (row / tm D ^ k % tm D)) i
      have := hW i
      omega
    · rw [h1]
      show sum + (wv D W (tc D (row / tm D ^ k % tm D)) + SS D k (inc W (tc D (row / tm D ^ k % tm D))) row) = _
      omega
theorem m146_loop (hk : DOk D) {n row : Nat} (hn : n ≤ 3) (hm : n = 0 ∨ 0 < tm D) (hr : row < 21953) {x2 x3 x4 x5 x7 : Int32} (M0 : Mem) (hz : M0.1 71 34 = nI (tm D)) (hT : TwA 93 (twos D) M0)
    (h : ∀ M', E87 M0 M' → GsM D (W0 D) M' → ((x4 = (-9 : Int32) → P_X11_days_80 G (nI n) x2 x3 (nI row) x7 (nI (row + 1)) M' Q) ∧ (¬ x4 = (-9 : Int32) → ((x5 < x7 → P_X11_days_80 G (nI n) x2 x3 (nI row) x7 (nI (row + 1)) M' Q) ∧ (¬ x5 < x7 → P_X11_days_80 G (nI n) x2 x3 x4 x5 (nI (row + 1)) M' Q))))) :
    ∀ (k dd : Nat) (M : Mem), dd + k = n → E87 M0 M → GsM D (WS D k (W0 D) row) M → P_X11_days_146 G (nI n) x2 x3 x4 x5 (nI row) x7 (nI (tm D ^ k)) (nI dd) M Q := by
  have h8 := hk.1
  have hT28 : tm D ≤ 28 := twos_len h8
  intro k
  induction k with
  | zero =>
    intro dd M hdd e hG
    have : dd = n := by omega
    subst this
    refine v_X11_days_146 (br_f (nI_nlt (Nat.le_refl _) (by omega)) ?_)
    rw [nI_1 row]
    exact h M e hG
  | succ k ih =>
    intro dd M hdd e hG
    have h0 : 0 < tm D := by rcases hm with z | z <;> omega
    obtain ⟨f1, f2, f3, f4, f5⟩ := fig_m hT28 h0 (k := k) (by omega) hr
    refine v_X11_days_146 (br_t (nI_lt (by omega) (by omega)) ?_)
    rw [e.i (by omega), hz, f1, f2, ncl (by omega), e.i (by omega), hT _ _ (tc_get f5), nI_1 dd]
    refine ⟨f3, f4, f3, vin (by omega), ?_⟩
    rw [WS_s] at hG
    refine off_ok hk (W := WS D k (W0 D) row) (fun i => ?_) f5 hG fun M1 e1 hG1 => RV.mk (ih (dd + 1) M1 (by omega) (e.tr e1) hG1)
    have a1 := WS_le D row k (W0 D) i
    have a2 : W0 D i ≤ (dL D).length := wrO_le _ _
    have a3 := hk.2.2.2.1
    omega
theorem sel_lt' {c : Nat → Option Nat} {B : Nat} (hc : ∀ j v, c j = some v → v < B) {j b m : Nat} (h : sel c j = some (b, m)) : b < j ∧ m < B := sel_lt hc j b m h
theorem sel_ne {c : Nat → Option Nat} {j v : Nat} (h : c j = some v) : sel c (j + 1) ≠ none := by
  rw [sel_s h]
  cases sel c j with
  | none => simp
  | some y => obtain ⟨b, m⟩ := y; simp only []; split <;> simp
theorem sel_bnd {c : Nat → Option Nat} : ∀ j b m, sel c j = some (b, m) → b < j
  | 0, b, m, h => by cases h
  | j + 1, b, m, h => by
    cases q : c j with
    | none => rw [sel_n q] at h; have := sel_bnd j b m h; omega
    | some v =>
      rw [sel_s q] at h
      cases q2 : sel c j with
      | none => rw [q2] at h; cases h; omega
      | some y =>
        obtain ⟨b', m'⟩ := y
        rw [q2] at h
        simp only [] at h
        have := sel_bnd j b' m' q2
        split at h
        · cases h; omega
        · cases h; omega
theorem SS_b (hk : DOk D) {n : Nat} (hn : n ≤ 3) (hm : n = 0 ∨ 0 < tm D) (row : Nat) : SS D n (W0 D) row < 1000 := by
  rcases hm with z | z
  · subst z; show 0 < 1000; omega
  · have := SS_le (de := 24) z (fun c hc => wv_24 hk (fun i => by
      have a2 : W0 D i ≤ (dL D).length := wrO_le _ _
      have a3 := hk.2.2.2.1
      omega) hc) row n (W0 D) fun i => Nat.le_refl _
    omega
theorem m80_loop (hk : DOk D) {n : Nat} (hn : n ≤ 3) (hm : n = 0 ∨ 0 < tm D) {x2 : Int32} (M0 : Mem) (hz : M0.1 71 34 = nI (tm D)) (hT : TwA 93 (twos D) M0)
    (h : ∀ M', E87 M0 M' → GsM D (W0 D) M' → WpM G 1 Y_X11_clearRow [.ref (ad G 71), .int x2, .int (nI n)] M' (RV (fun M2 => P_X11_days_226 G (nI n) x2 (sel1 (sel (FR D n) (tm D ^ n))) (sel2 (sel (FR D n) (tm D ^ n))) (nI (tm D ^ n)) 0 M2 Q))) :
    ∀ (k row : Nat) (M : Mem), row + k = tm D ^ n → E87 M0 M → GsM D (W0 D) M → P_X11_days_80 G (nI n) x2 (nI (tm D ^ n)) (sel1 (sel (FR D n) row)) (sel2 (sel (FR D n) row)) (nI row) M Q := by
  have h8 := hk.1
  have hT28 : tm D ≤ 28 := twos_len h8
  have hp := pw_le hT28 hn
  have hb : ∀ j v, FR D n j = some v → v < 1000 := fun j v hv => by cases hv; exact SS_b hk hn hm j
  intro k
  induction k with
  | zero =>
    intro row M hr e hG
    have : row = tm D ^ n := by omega
    subst this
    exact v_X11_days_80 (br_f (nI_nlt (Nat.le_refl _) (by omega)) (h M e hG))
  | succ k ih =>
    intro row M hr e hG
    refine v_X11_days_80 (br_t (nI_lt (by omega) (by omega)) ?_)
    have hz1 : M.1 71 34 = nI (tm D) := by rw [e.i (by omega)]; exact hz
    have hT1 : TwA 93 (twos D) M := fun c p hc => by rw [e.i (by omega)]; exact hT c p hc
    refine m95_loop hk hn hm (by omega) M hz1 hT1 (fun M1 e1 hG1 => ?_) n 0 0 (W0 D) M (by omega) Eqv.rf hG (fun i => ?_) (by omega) (by omega) rfl
    · have hz2 : M1.1 71 34 = nI (tm D) := by rw [e1.i (by omega)]; exact hz1
      have hT2 : TwA 93 (twos D) M1 := fun c p hc => by rw [e1.i (by omega)]; exact hT1 c p hc
      refine m146_loop hk hn hm (by omega) M1 hz2 hT2 (fun M2 e2 hG2 => ?_) n 0 M1 (by omega) Eqv.rf hG1
      have ih1 := ih (row + 1) M2 (by omega) (e.tr (e1.tr e2)) hG2
      have hs := sel_s (c := FR D n) (j := row) rfl
      rw [hs] at ih1
      have hF := SS_b hk hn hm row
      cases q : sel (FR D n) row with
      | none =>
        rw [q] at ih1
        exact br_t rfl ih1
      | some y =>
        obtain ⟨b, m⟩ := y
        obtain ⟨b1, b2⟩ := sel_lt' hb q
        rw [q] at ih1
        simp only [] at ih1
        refine br_f (nI_ne9 (by omega)) ?_
        show (nI m < _ → _) ∧ _
        rw [nI_ltI (by omega) (by omega)]
        refine ⟨fun d => ?_, fun d => ?_⟩
        · rw [if_pos d] at ih1; exact ih1
        · rw [if_neg (fun q2 => d (nI_lt q2 (by omega)))] at ih1; exact ih1
    · have a2 : W0 D i ≤ (dL D).length := wrO_le _ _
      have a3 := hk.2.2.2.1
      omega
theorem m51_loop (h28 : tm D ≤ 28) {n : Nat} (hn : n ≤ 3) {x2 : Int32} (hz : M.1 71 34 = nI (tm D)) (h : P_X11_days_80 G (nI n) x2 (nI (tm D ^ n)) (-9) 0 0 M Q) : ∀ (k d : Nat), d + k = n → P_X11_days_51 G (nI n) x2 (nI (tm D ^ d)) (nI d) M Q := by
  intro k
  induction k with
  | zero =>
    intro d hd
    have : d = n := by omega
    subst this
    exact v_X11_days_51 (br_f (nI_nlt (Nat.le_refl _) (by omega)) h)
  | succ k ih =>
    intro d hd
    refine v_X11_days_51 (br_t (nI_lt (by omega) (by omega)) ?_)
    rw [hz, pk_mul, nI_1, ← Nat.pow_succ]
    exact ih (d + 1) (by omega)
/-- what each day gets -/
def dayR (s : RSt) (r : Nat) (f : Nat → Int32) : Nat → RSt
  | 0 => s
  | i + 1 => rWrt (dayR s r f i) r i (f i)
theorem dayR_1 (s : RSt) (r : Nat) (f : Nat → Int32) : ∀ i, (dayR s r f i).1 = s.1
  | 0 => rfl
  | i + 1 => dayR_1 s r f i
theorem dayR_ok {s : RSt} (h : ROk 6 40 s) (r : Nat) (f : Nat → Int32) (i : Nat) : ROk 6 40 (dayR s r f i) := by intro a ha m hm; rw [dayR_1] at hm; exact h a ha m hm
theorem m226_loop (hk0 : SOk S) {n r fr : Nat} {x5 : Int32} (hn : n ≤ 3) (hm : n = 0 ∨ 0 < tm S.2.2.1) (hr : r < 6) (hfr : fr < 21953) {s : RSt} (hs : ROk 6 40 s) (M0 : Mem) (hz : M0.1 71 34 = nI (tm S.2.2.1)) (hT : TwA 93 (twos S.2.2.1) M0) :
    ∀ (k dd : Nat) (M : Mem), dd + k = n → Eqv (fun a _ => a = 73) M0 M → RM (sR S (dayR s r (fun d => cdI S.2.2.1 (fg3 S.2.2.1 n fr d)) dd)) M → (∀ M', EqM M0 M' → RM (sR S (dayR s r (fun d => cdI S.2.2.1 (fg3 S.2.2.1 n fr d)) n)) M' → Q (some (.int x5)) M') →
    P_X11_days_226 G (nI n) (nI r) (nI fr) x5 (nI (tm S.2.2.1 ^ k)) (nI dd) M Q := by
  have h8 := hk0.2.2.1.1
  have hT28 : tm S.2.2.1 ≤ 28 := twos_len h8
  intro k
  induction k with
  | zero =>
    intro dd M hdd e hM h
    have : dd = n := by omega
    subst this
    exact v_X11_days_226 (br_f (nI_nlt (Nat.le_refl _) (by omega)) (h M (e.mono (by omega)) hM))
  | succ k ih =>
    intro dd M hdd e hM h
    have h0 : 0 < tm S.2.2.1 := by rcases hm with z | z <;> omega
    obtain ⟨f1, f2, f3, f4, f5⟩ := fig_m hT28 h0 (k := k) (by omega) hfr
    refine v_X11_days_226 (br_t (nI_lt (by omega) (by omega)) ?_)
    rw [e.i (by omega), hz, f1, f2, ncl (by omega), e.i (by omega), hT _ _ (tc_get f5), ix40, ncl (by omega), nI_1 dd]
    refine ⟨f3, f4, f3, vin (by omega), vin (by omega), ?_⟩
    rintro _ rfl
    refine ih (dd + 1) _ (by omega) (e.upI rfl) ?_ h
    have := m_wr (v := cdI S.2.2.1 (fg3 S.2.2.1 n fr dd)) hM (dayR_ok hs r _ dd) hr (i := dd) (by omega)
    have hx : fg3 S.2.2.1 n fr dd = fr / tm S.2.2.1 ^ k % tm S.2.2.1 := by show fr / tm S.2.2.1 ^ (n - 1 - dd) % tm S.2.2.1 = _; rw [show n - 1 - dd = k by omega]
    rw [hx] at this
    show RM (sR S (rWrt (dayR s r (fun d => cdI S.2.2.1 (fg3 S.2.2.1 n fr d)) dd) r dd (cdI S.2.2.1 (fg3 S.2.2.1 n fr dd)))) _
    rw [hx]
    exact this
theorem c51_loop (hk0 : SOk S) {n r : Nat} {f : Nat → Int32} {v : Nat} (hn : n ≤ 3) (hr : r < 6) {s : RSt} (hs : ROk 6 40 s) (hsn : s.1 r = some n) :
    ∀ (k dd : Nat) (M : Mem), dd + k = n → RC (sR S (dayR s r f dd)) M → M.1 28 6 = nI v → (∀ d, d < n → M.1 35 d = f d) → (∀ M', EqC M M' → RC (sR S (dayR s r f n)) M' → Q (some (.int (nI v))) M') →
    P_X0_plan_51 G (nI n) (nI r) (nI dd) M Q := by
  intro k
  induction k with
  | zero =>
    intro dd M hdd hC h6 hf h
    have : dd = n := by omega
    subst this
    refine v_X0_plan_51 (br_f (nI_nlt (Nat.le_refl _) (by omega)) ?_)
    rw [h6]
    exact h M EqC.rf hC
  | succ k ih =>
    intro dd M hdd hC h6 hf h
    refine v_X0_plan_51 (br_t (nI_lt (by omega) (by omega)) ⟨vin (by omega), ?_⟩)
    rw [ncl (by omega), hf dd (by omega), nI_1 dd]
    refine c_wr (n := n) (S := sR S (dayR s r f dd)) (hk0.sR (dayR_ok hs r f dd)) hC hr (by show (dayR s r f dd).1 r = _; rw [dayR_1]; exact hsn) (by omega) fun hC1 => RV.mk ?_
    refine ih (dd + 1) _ (by omega) hC1 (by rw [upI_n _ _ (by omega)]; exact h6) (fun d hd => by rw [upI_n _ _ (by omega)]; exact hf d hd) fun M' g1 g2 => h M' ((EqC.rf.upI (by omega)).tr g1) g2
theorem RM.g87 {M1 : Mem} (hM : RM S M) (e : E87 M M1) (hG : GsM S.2.2.1 (W0 S.2.2.1) M1) : RM S M1 := by
  refine hM.sD (D := S.2.2.1) e (by omega) ?_
  obtain ⟨a, b, c, d, f⟩ := hM.2.2.1
  refine ⟨by rw [e.i (by omega)]; exact a, by rw [e.i (by omega)]; exact b, fun i hi => ⟨hG i hi, ?_⟩, by rw [e.i (by omega)]; exact d, f.eqv e (by omega)⟩
  rw [e.i (by omega)]
  exact (c i hi).2
theorem sel_pos (hm : n = 0 ∨ 0 < tm D) : ∃ b v, sel (FR D n) (tm D ^ n) = some (b, v) ∧ b < tm D ^ n := by
  have hp : 0 < tm D ^ n := by
    rcases hm with z | z
    · rw [z, Nat.pow_zero]; omega
    · exact Nat.pow_pos z
  have h1 := sel_ne (c := FR D n) (j := tm D ^ n - 1) rfl
  rw [show tm D ^ n - 1 + 1 = tm D ^ n by omega] at h1
  obtain ⟨⟨b, v⟩, hy⟩ := Option.ne_none_iff_exists'.mp h1
  exact ⟨b, v, hy, sel_bnd _ _ _ hy⟩
theorem m_days (hk : SOk S) (hM : RM S M) (hc : ¬ dn S.2.2.1 = 0) {n r : Nat} (hn : n ≤ 3) (hr : r < 6) (h0 : tm S.2.2.1 = 0 → 0 < n → ∀ M', RM S M' → EqM M M' → Q (some (.int (-9))) M')
    (h1 : (n = 0 ∨ 0 < tm S.2.2.1) → ∀ M' b v, sel (FR S.2.2.1 n) (tm S.2.2.1 ^ n) = some (b, v) → RM (sR S (dayR (rBeg S.1 r n 0) r (fun d => cdI S.2.2.1 (fg3 S.2.2.1 n b d)) n)) M' → EqM M M' → Q (some (.int (nI v))) M') : C_X11_days G (nI n) (nI r) M Q := by
  have h8 := hk.2.2.1.1
  have hT28 : tm S.2.2.1 ≤ 28 := twos_len h8
  have hpw := pw_le hT28 hn
  refine v_X11_days (m_in_y (nI_pos (by omega)) (show ¬ nI 3 < nI n from nI_nlt (by omega) (by omega)) (RI.mk (br_f (by decide) (m_row_y hr (RI.mk (br_f (by decide) ?_))))))
  rw [hM.nz, dn0 h8]
  refine br_f hc (twos_m hk hM fun M1 e1 z1 t1 => RV.mk ?_)
  have hM1 := hM.tw e1
  have v1 : EqM M M1 := e1.mono (by unfold PT; omega)
  have go : (n = 0 ∨ 0 < tm S.2.2.1) → P_X11_days_51 G (nI n) (nI r) 1 0 M1 Q := fun hm => by
    have e : P_X11_days_51 G (nI n) (nI r) 1 0 M1 Q = P_X11_days_51 G (nI n) (nI r) (nI (tm S.2.2.1 ^ 0)) (nI 0) M1 Q := by rw [Nat.pow_zero]; rfl
    rw [e]
    refine m51_loop hT28 hn z1 ?_ n 0 (by omega)
    refine m80_loop hk.2.2.1 hn hm M1 z1 t1 (fun M2 e2 hG2 => ?_) (tm S.2.2.1 ^ n) 0 M1 (by omega) Eqv.rf (fun i hi => hM1.gl hi)
    have hM2 := hM1.g87 e2 hG2
    refine clear_ok hM2.1 hk.1 hr (by omega) fun M3 e3 hr3 => RV.mk ?_
    have hM3 : RM (sR S (rBeg S.1 r n 0)) M3 := hM2.sR e3 (by omega) hr3
    obtain ⟨b, v, hs, hb⟩ := sel_pos (D := S.2.2.1) hm
    rw [hs]
    refine m226_loop hk hn hm hr (fr := b) (by omega) (hk.1.beg (by omega) _) M3 (by rw [e3.i (by omega), e2.i (by omega)]; exact z1) (fun c p hcp => by rw [e3.i (by omega), e2.i (by omega)]; exact t1 c p hcp) n 0 M3 (by omega) Eqv.rf hM3 fun M4 e4 hM4 => ?_
    exact h1 hm M4 b v hs hM4 (v1.tr ((e2.mono (by omega)).tr ((e3.mono (by omega)).tr e4)))
  refine ⟨fun c => ⟨fun d => ?_, fun d => go (Or.inr ?_)⟩, fun c => go (Or.inl ?_)⟩
  · rw [z1] at d
    have d0 : tm S.2.2.1 = 0 := (nI_eq (by omega) (by omega)).mp d
    exact h0 d0 ((nI_ltI (a := 0) (by omega) (by omega)).mp c) M1 hM1 v1
  · rw [z1] at d
    rcases Nat.eq_zero_or_pos (tm S.2.2.1) with z | z
    · exact absurd (show nI (tm S.2.2.1) = 0 by rw [z]; rfl) d
    · exact z
  · rcases Nat.eq_zero_or_pos n with z | z
    · exact z
    · exact absurd (show (0 : Int32) < nI n from nI_lt (a := 0) z (by omega)) c
theorem c_plan (hk : SOk S) (hC : RC S M) {n r : Nat} (hn : n ≤ 3) (hr : r < 6) (h0 : tm S.2.2.1 = 0 → 0 < n → ∀ M', RC S M' → EqC M M' → Q (some (.int (-9))) M')
    (h1 : (n = 0 ∨ 0 < tm S.2.2.1) → ∀ M' b v, sel (FR S.2.2.1 n) (tm S.2.2.1 ^ n) = some (b, v) → RC (sR S (dayR (rBeg S.1 r n 0) r (fun d => cdI S.2.2.1 (fg3 S.2.2.1 n b d)) n)) M' → EqC M M' → Q (some (.int (nI v))) M') : C_X0_plan G (nI n) (nI r) M Q := by
  have h8 := hk.2.2.1.1
  have hT28 : tm S.2.2.1 ≤ 28 := twos_len h8
  refine v_X0_plan (gather_ok hk hC fun M1 e1 c1 l1 t1 d1 => RV.mk (br_f (nI_pos (by omega)) (br_f (show ¬ nI 3 < nI n from nI_nlt (by omega) (by omega)) ?_)))
  obtain ⟨de, d1, d2, d3⟩ := d1
  have v1 : EqC M M1 := e1.mono (by unfold PCa PGa; omega)
  have hC1 : RC S M1 := hC.scr hk (e1.mono (by unfold PCa PGa scrC; omega))
  have hdw : ∀ c, c < tm S.2.2.1 → wv S.2.2.1 (W0 S.2.2.1) (tc S.2.2.1 c) ≤ de := fun c hc => d3 _ (List.mem_of_getElem? (tc_get hc)) _ (wv_0 hc)
  have go : (n = 0 ∨ 0 < tm S.2.2.1) → ∀ M9 : Mem, M9 = upI M1 28 6 (-9 : Int32) → (WpM G 10 Y_X0_search [.ref (ad G 28), .int 0, .int (nI n), .int 0] M9 (RV (fun M10 => (WpM G 2 Y_X9_begin [.ref (ad G 1), .int (nI r), .int (nI n)] M10 (RV (fun M11 => P_X0_plan_51 G (nI n) (nI r) 0 M11 Q)))))) := fun hm M9 e9 => by
    have w9 : Eqv PS M1 M9 := by rw [e9]; exact Eqv.rf.upI (Or.inl ⟨rfl, rfl⟩)
    have hS : SrC S.2.2.1 de (W0 S.2.2.1) M9 := by
      refine ⟨by rw [w9.i (by unfold PS; omega)]; exact l1, by rw [w9.i (by unfold PS; omega)]; exact d1, fun c p hcp => by rw [w9.i (by unfold PS; omega)]; exact t1 c p hcp, fun i hi => ?_⟩
      refine (c1.2 i hi).1.eqv (P := fun a k => a = 28) (M := M1) ?_ (by omega)
      rw [e9]; exact Eqv.rf.upI rfl
    refine srch_ok hk.2.2.1 hn hm d2 hdw n 9 0 0 0 (W0 S.2.2.1) M9 _ (by omega) (by omega) hS (fun i => ⟨Nat.le_refl _, ?_⟩) (by omega) (fun row _ _ => ⟨(Nat.zero_add _).symm, fun t ht => absurd ht (Nat.not_lt_zero t)⟩) ?_ fun M10 e10 _ _ b10 => RV.mk ?_
    · have a2 : W0 S.2.2.1 i ≤ (dL S.2.2.1).length := wrO_le _ _
      have a3 := hk.2.2.1.2.2.2.1
      omega
    · rw [Nat.zero_mul]
      show M9.1 28 6 = -9
      rw [e9, upI_s]
    · rw [Nat.zero_mul, Nat.zero_add] at b10
      obtain ⟨b, v, hs, hb⟩ := sel_pos (D := S.2.2.1) hm
      rw [hs] at b10
      have hC10 : RC S M10 := hC1.scr hk ((w9.tr e10).mono (by unfold PS scrC; omega))
      refine begin_ok RPk.R hC10.1 hr (by omega) fun M11 e11 hr11 => RV.mk ?_
      have hC11 : RC (sR S (rBeg S.1 r n 0)) M11 := hC10.sR hk e11 (by omega) hr11
      refine c51_loop (f := fun d => cdI S.2.2.1 (fg3 S.2.2.1 n b d)) (v := v) hk hn hr (hk.1.beg (by omega) _) (fu_s _ _ _) n 0 M11 (by omega) hC11 (by rw [e11.i (by omega)]; exact b10.1) (fun d hd => by rw [e11.i (by omega)]; exact b10.2 d hd) fun M12 e12 hC12 => ?_
      exact h1 hm M12 b v hs hC12 (v1.tr (((w9.tr e10).mono (by unfold PS; omega)).tr ((e11.mono (by omega)).tr e12)))
  refine ⟨fun c => ⟨fun d => ?_, fun d => go (Or.inr ?_)⟩, fun c => go (Or.inl ?_)⟩
  · rw [l1] at d
    have d0 : tm S.2.2.1 = 0 := (nI_eq (by omega) (by omega)).mp d
    exact h0 d0 ((nI_ltI (a := 0) (by omega) (by omega)).mp c) M1 hC1 v1
  · rw [l1] at d
    rcases Nat.eq_zero_or_pos (tm S.2.2.1) with z | z
    · exact absurd (show nI (tm S.2.2.1) = 0 by rw [z]; rfl) d
    · exact z
  · rcases Nat.eq_zero_or_pos n with z | z
    · exact z
    · exact absurd (show (0 : Int32) < nI n from nI_lt (a := 0) z (by omega)) c
/-- promise 26 -/
theorem law_days (hB : Bo M) (x y : Int32) : C_X10_days G x y M (RI fun r M1 => C_X11_days G x y M1 (RI fun r2 M2 => r = r2 ∧ Bo M2)) := by
  obtain ⟨S, hk, hC, hM⟩ := id hB
  have h8 := hk.2.2.1.1
  rcases ix3 x (n := 4) (by omega) with hx | ⟨n, hn, rfl⟩
  · have mm : C_X11_days G x y M (RI fun r2 M2 => (-1 : Int32) = r2 ∧ Bo M2) := v_X11_days (m_in_n (hx.imp id fun q => (nlt_le (n := 3) (by decide)).mpr q) (RI.mk (br_t rfl (RI.mk ⟨rfl, hB⟩))))
    refine v_X10_days ⟨fun _ => RI.mk mm, fun c => ⟨fun _ => RI.mk mm, fun c2 => ?_⟩⟩
    exact absurd ((nlt_le (n := 3) (by decide)).mpr (hx.resolve_left c)) c2
  have hin : ∀ {M : Mem} {Q : Option Value → Mem → Prop}, Q (some (.int 1)) M → C_X11_in G (nI n) 0 3 M Q := fun h => m_in_y (nI_pos (by omega)) (show ¬ nI 3 < nI n from nI_nlt (by omega) (by omega)) h
  refine v_X10_days (br_f (nI_pos (by omega)) (br_f (show ¬ nI 3 < nI n from nI_nlt (by omega) (by omega)) ?_))
  rcases ix3 y (n := 6) (by omega) with hx | ⟨r, hr, rfl⟩
  · exact num_out RPk.R hx (RI.mk (br_t rfl (RI.mk (v_X11_days (hin (RI.mk (br_f (by decide) (m_row_n hx (RI.mk (br_t rfl (RI.mk ⟨rfl, hB⟩)))))))))))
  refine num_in RPk.R hr (RI.mk (br_f (by decide) ?_))
  rw [hC.nz, dn0 h8]
  refine ⟨fun c => RI.mk (v_X11_days (hin (RI.mk (br_f (by decide) (m_row_y hr (RI.mk (br_f (by decide) ?_))))))), fun c => ?_⟩
  · rw [hM.nz, dn0 h8]; exact br_t c (RI.mk ⟨rfl, hB⟩)
  have hs : ∀ b, SOk (sR S (dayR (rBeg S.1 r n 0) r (fun d => cdI S.2.2.1 (fg3 S.2.2.1 n b d)) n)) := fun b => hk.sR (dayR_ok (hk.1.beg (by omega) _) _ _ _)
  refine c_plan hk hC (by omega) hr (fun z0 z1 M1 hC1 e1 => RI.mk (RI.mk ?_)) (fun hm M1 b v hs1 hC1 e1 => RI.mk (RI.mk ?_))
  · refine m_days hk (hM.oth e1) c (by omega) hr (fun _ _ M2 hM2 e2 => RI.mk ⟨rfl, Bo.mk hk (hC1.oth hk e2) hM2⟩) (fun hm => ?_)
    rcases hm with z | z <;> omega
  · refine m_days hk (hM.oth e1) c (by omega) hr (fun z0 z1 => ?_) (fun _ M2 b2 v2 hs2 hM2 e2 => RI.mk ?_)
    · rcases hm with z | z <;> omega
    · rw [hs1] at hs2
      cases hs2
      exact ⟨rfl, Bo.mk (hs b) (hC1.oth (hs b) e2) hM2⟩
end DAZ
