section CP
variable {G : Glob} {M : Mem} {Q : Option Value → Mem → Prop} {S : St} {th N mx fl zb rb r : Nat} {s : RSt}
theorem sub_toInt {a b : Int32} (h1 : -2147483648 ≤ a.toInt - b.toInt) (h2 : a.toInt - b.toInt < 2147483648) : (a - b).toInt = a.toInt - b.toInt := by
  rw [Int32.toInt_sub]
  exact Int.bmod_eq_of_le (by omega) (by omega)
/-- what a piece needs -/
def reaY (n i k : Nat) : Prop := i + k ≤ n
def reaN (n : Nat) (x : Int32) (k : Nat) : Prop := x < 0 ∨ ∃ i, x = nI i ∧ i < 2 ^ 31 ∧ n < i + k
theorem rea_or (n : Nat) (x : Int32) (k : Nat) : reaN n x k ∨ ∃ i, x = nI i ∧ i + k ≤ n ∧ i < 2 ^ 31 := by
  by_cases h : x < 0
  · exact Or.inl (Or.inl h)
  · obtain ⟨i, hi, rfl⟩ := nI_of h
    by_cases h2 : i + k ≤ n
    · exact Or.inr ⟨i, rfl, h2, hi⟩
    · exact Or.inl (Or.inr ⟨i, rfl, hi, by omega⟩)
theorem reach_y (hp : RPk th N mx fl zb rb) (hs : RowsC th N mx fl zb rb s M) (hk : ROk N mx s) (hr : r < N) {n i k : Nat} (hn : s.1 r = some n) (hi : i + k ≤ n) (h : Q (some (.int 1)) M) : C_X9_reaches G th (nI r) (nI i) (nI k) M Q := by
  obtain ⟨f1, f2, f3, f4, f5, f6, f7, f8, f9, -⟩ := hp.facts
  have := hk r hr n hn
  refine v_X9_reaches f1 (size_ok hp hs hr (RI.mk (br_f (nI_pos (by omega)) ?_)))
  rw [hn]
  refine br_f (nI_nlt (by omega) (by omega)) (br_f (nI_pos (by omega)) ?_)
  rw [show oS (some n) = nI n from rfl, pk_sub (by omega)]
  exact br_f (nI_nlt (by omega) (by omega)) h
theorem reach_n (hp : RPk th N mx fl zb rb) (hs : RowsC th N mx fl zb rb s M) (hk : ROk N mx s) (hr : r < N) {n k : Nat} {x : Int32} (hn : s.1 r = some n) (hk2 : k < 2 ^ 31) (hx : reaN n x k) (h : Q (some (.int 0)) M) : C_X9_reaches G th (nI r) x (nI k) M Q := by
  obtain ⟨f1, f2, f3, f4, f5, f6, f7, f8, f9, -⟩ := hp.facts
  have := hk r hr n hn
  refine v_X9_reaches f1 (size_ok hp hs hr (RI.mk ?_))
  rcases hx with hx | ⟨i, rfl, hi, hlt⟩
  · exact br_t hx h
  · refine br_f (nI_pos hi) ?_
    rw [hn]
    refine ⟨fun _ => h, fun c => ⟨fun _ => h, fun _ => ?_⟩⟩
    have hin : i ≤ n := by
      rcases Nat.lt_or_ge n i with q | q
      · exact absurd (nI_lt q hi) c
      · exact q
    rw [show oS (some n) = nI n from rfl, pk_sub hin]
    exact br_t (nI_lt (by omega) hk2) h
theorem move_ok (hp : RPk th N mx fl zb rb) (hs : RowsC th N mx fl zb rb s M) (hk : ROk N mx s) {q : Nat} (hr : r < N) (hq : q < N) {n n2 i j k : Nat} (hn : s.1 r = some n) (hn2 : s.1 q = some n2) (hi : i + k ≤ n) (hj : j + k ≤ n2) (h : Q none (upC M (rb + r) (rb + q) i j k)) : C_X9_move G th (nI r) (nI i) (nI q) (nI j) (nI k) M Q := by
  obtain ⟨f1, f2, f3, f4, f5, f6, f7, f8, f9, -⟩ := hp.facts
  have := hk r hr n hn
  have := hk q hq n2 hn2
  refine v_X9_move f1 (reach_y hp hs hk hr hn hi (RI.mk (br_f (by decide) (reach_y hp hs hk hq hn2 hj (RI.mk (br_f (by decide) ⟨by rw [f6]; exact vin hr (by omega), by rw [f6]; exact vin hq (by omega), nI_pos (by omega), nI_pos (by omega), nI_pos (by omega), ?_, ?_, ?_⟩))))))
  · rw [ncl (by omega), ncl (by omega), ncl (by omega), f5, f7 r hr]; omega
  · rw [ncl (by omega), ncl (by omega), ncl (by omega), f5, f7 q hq]; omega
  · rintro _ rfl
    rw [ncl (by omega), ncl (by omega), ncl (by omega), ncl (by omega), ncl (by omega), f5, f5]
    exact h
theorem eqv_upC (M : Mem) (a b sp dp n : Nat) : Eqv (fun q _ => q = b) M (upC M a b sp dp n) := fun q j hn => ⟨by simp only [upC]; rw [if_neg hn], rfl⟩
theorem RowsC.move (hp : RPk th N mx fl zb rb) (hs : RowsC th N mx fl zb rb s M) (hr : r < N) {q : Nat} (hq : q < N) {n n2 i j k : Nat} (hn : s.1 r = some n) (hi : i + k ≤ n) : RowsC th N mx fl zb rb (rMov s r i q j k) (upC M (rb + r) (rb + q) i j k) := by
  obtain ⟨f1, f2, f3, f4, f5, f6, f7, f8, f9, f10, f11, f12, -⟩ := hp.facts
  have e := eqv_upC M (rb + r) (rb + q) i j k
  refine ⟨by rw [e.i (by omega)]; exact hs.1, by rw [e.i (by omega)]; exact hs.2.1, fun r' hr' => ⟨by rw [e.i (by omega)]; exact (hs.2.2 r' hr').1, fun n' hn' t ht => ?_⟩⟩
  show _ = fu s.2 q (va_cpy (s.2 r) (s.2 q) i j k) r' t
  by_cases e2 : r' = q
  · subst e2
    rw [fu_s]
    show (if rb + r' = rb + r' then va_cpy (M.1 (rb + r)) (M.1 (rb + r')) i j k t else M.1 (rb + r') t) = _
    rw [if_pos rfl]
    by_cases c : j ≤ t ∧ t < j + k
    · rw [pk_cpy_in c.1 c.2, pk_cpy_in c.1 c.2]
      exact (hs.2.2 r hr).2 n hn _ (by omega)
    · rw [pk_cpy_out (by omega), pk_cpy_out (by omega)]
      exact (hs.2.2 r' hr').2 n' hn' t ht
  · rw [fu_n _ _ e2, e.i (by omega)]
    exact (hs.2.2 r' hr').2 n' hn' t ht
theorem ix40k (r i k : Nat) : (40 : Int32) * nI r + nI i + nI k = nI (40 * r + i + k) := by rw [ix40, nI_add]
theorem mcopy2 {q j n : Nat} (hq : q < 6) (hj : j + n ≤ 40) (f : Nat → Int32) (M0 : Mem) : ∀ (k t : Nat) (M : Mem), t + k = n → Eqv (fun a _ => a = 73) M0 M → (∀ m, M.1 73 m = if 40 * q + j ≤ m ∧ m < 40 * q + j + t then f (m - (40 * q + j)) else M0.1 73 m) → (∀ m, m < n → M0.1 77 m = f m) →
    (∀ M', Eqv (fun a _ => a = 73) M0 M' → (∀ m, M'.1 73 m = if 40 * q + j ≤ m ∧ m < 40 * q + j + n then f (m - (40 * q + j)) else M0.1 73 m) → Q (some (.int 1)) M') → P_X11_copy_132 G (nI q) (nI j) (nI n) (nI t) M Q := by
  intro k
  induction k with
  | zero =>
    intro t M ht he hv hf hQ
    have : t = n := by omega
    subst this
    exact v_X11_copy_132 (br_f (nI_nlt (Nat.le_refl _) (by omega)) (hQ M he hv))
  | succ k ih =>
    intro t M ht he hv hf hQ
    refine v_X11_copy_132 (br_t (nI_lt (by omega) (by omega)) ⟨vin (by omega), ?_⟩)
    rw [ix40k]
    refine ⟨vin (by omega), ?_⟩
    rintro _ rfl
    rw [ncl (by omega), ncl (by omega), nI_1, he.i (by omega), hf t (by omega)]
    refine ih (t + 1) _ (by omega) (he.upI rfl) (fun m => ?_) hf hQ
    by_cases e : m = 40 * q + j + t
    · subst e
      rw [upI_s, if_pos (by omega), show 40 * q + j + t - (40 * q + j) = t by omega]
    · rw [upI_n _ _ (by omega), hv m]
      by_cases c : 40 * q + j ≤ m ∧ m < 40 * q + j + t
      · rw [if_pos c, if_pos (by omega)]
      · rw [if_neg c, if_neg (by omega)]
theorem mcopy1 {r q i j n : Nat} (hr : r < 6) (hq : q < 6) (hi : i + n ≤ 40) (hj : j + n ≤ 40) (M0 : Mem) : ∀ (k t : Nat) (M : Mem), t + k = n → Eqv (fun a _ => a = 77) M0 M → (∀ m, m < t → M.1 77 m = M0.1 73 (40 * r + i + m)) →
    (∀ M', Eqv (fun a _ => a = 73 ∨ a = 77) M0 M' → (∀ m, M'.1 73 m = if 40 * q + j ≤ m ∧ m < 40 * q + j + n then M0.1 73 (40 * r + i + (m - (40 * q + j))) else M0.1 73 m) → Q (some (.int 1)) M') → P_X11_copy_95 G (nI r) (nI i) (nI q) (nI j) (nI n) (nI t) M Q := by
  intro k
  induction k with
  | zero =>
    intro t M ht he hv hQ
    have : t = n := by omega
    subst this
    refine v_X11_copy_95 (br_f (nI_nlt (Nat.le_refl _) (by omega)) ?_)
    refine mcopy2 hq hj (fun m => M0.1 73 (40 * r + i + m)) M t 0 M (by omega) Eqv.rf (fun m => by rw [if_neg (by omega)]) hv fun M' e' hv' => hQ M' ((he.mono (by omega)).tr (e'.mono (by omega))) fun m => ?_
    rw [hv' m, he.i (by omega)]
  | succ k ih =>
    intro t M ht he hv hQ
    refine v_X11_copy_95 (br_t (nI_lt (by omega) (by omega)) ?_)
    rw [ix40k]
    refine ⟨vin (by omega), vin (by omega), ?_⟩
    rintro _ rfl
    rw [ncl (by omega), ncl (by omega), nI_1, he.i (by omega)]
    refine ih (t + 1) _ (by omega) (he.upI rfl) (fun m hm => ?_) hQ
    by_cases e : m = t
    · subst e; rw [upI_s]
    · rw [upI_n _ _ (by omega)]; exact hv m (by omega)
theorem RowsM.move {s : RSt} {M' : Mem} (hs : RowsM 6 40 74 73 s M) (hk : ROk 6 40 s) (hr : r < 6) {q : Nat} (hq : q < 6) {n i j k : Nat} (hn : s.1 r = some n) (hi : i + k ≤ n) (hj : j + k ≤ 40) (e : Eqv (fun a _ => a = 73 ∨ a = 77) M M') (hv : ∀ m, M'.1 73 m = if 40 * q + j ≤ m ∧ m < 40 * q + j + k then M.1 73 (40 * r + i + (m - (40 * q + j))) else M.1 73 m) : RowsM 6 40 74 73 (rMov s r i q j k) M' := by
  intro r' hr'
  refine ⟨by rw [e.i (by omega)]; exact (hs r' hr').1, fun n' hn' t ht => ?_⟩
  have h40 := hk r' hr' n' hn'
  have h40' := hk r hr n hn
  show _ = fu s.2 q (va_cpy (s.2 r) (s.2 q) i j k) r' t
  rw [hv]
  by_cases e2 : r' = q
  · subst e2
    rw [fu_s]
    by_cases c : j ≤ t ∧ t < j + k
    · rw [pk_cpy_in c.1 c.2, if_pos (by omega), show 40 * r + i + (40 * r' + t - (40 * r' + j)) = 40 * r + (i + (t - j)) by omega]
      exact (hs r hr).2 n hn _ (by omega)
    · rw [pk_cpy_out (by omega), if_neg (by omega)]
      exact (hs r' hr').2 n' hn' t ht
  · rw [fu_n _ _ e2, if_neg (by omega)]
    exact (hs r' hr').2 n' hn' t ht
theorem in_rea_n {n k : Nat} {x : Int32} (hn : n < 2 ^ 30) (hk : k < 2 ^ 31) (hx : reaN n x k) : x < 0 ∨ nI n - nI k < x := by
  rcases hx with h | ⟨i, rfl, hi, hlt⟩
  · exact Or.inl h
  · refine Or.inr ?_
    rw [Int32.lt_iff_toInt_lt, sub_toInt (by rw [nI_toInt (by omega), nI_toInt hk]; omega) (by rw [nI_toInt (by omega), nI_toInt hk]; omega), nI_toInt (by omega), nI_toInt hk, nI_toInt hi]
    omega
theorem in_rea_y {n i k : Nat} (hn : n < 2 ^ 30) (hi : i + k ≤ n) : ¬ nI n - nI k < nI i := by
  rw [pk_sub (by omega)]
  exact nI_nlt (by omega) (by omega)
/-- promise 6 -/
theorem law_copy (hB : Bo M) (x1 x2 x3 x4 x5 : Int32) : C_X10_copy G x1 x2 x3 x4 x5 M (RI fun r M1 => C_X11_copy G x1 x2 x3 x4 x5 M1 (RI fun r2 M2 => r = r2 ∧ Bo M2)) := by
  obtain ⟨S, hk, hC, hM⟩ := id hB
  rcases ix3 x1 (n := 6) (by decide) with hx | ⟨r, hr, rfl⟩
  · exact v_X10_copy (num_out RPk.R hx (RI.mk (br_t rfl (RI.mk (v_X11_copy (m_row_n hx (RI.mk (br_t rfl (RI.mk ⟨rfl, hB⟩)))))))))
  rcases ix3 x3 (n := 6) (by decide) with hx | ⟨q, hq, rfl⟩
  · exact v_X10_copy (num_in RPk.R hr (RI.mk (br_f (by decide) (num_out RPk.R hx (RI.mk (br_t rfl (RI.mk (v_X11_copy (m_row_y hr (RI.mk (br_f (by decide) (m_row_n hx (RI.mk (br_t rfl (RI.mk ⟨rfl, hB⟩)))))))))))))))
  refine v_X10_copy (num_in RPk.R hr (RI.mk (br_f (by decide) (num_in RPk.R hq (RI.mk (br_f (by decide) ⟨fun c => ?_, fun c => ?_⟩))))))
  · refine c_finds (f := 5) hk hC (by decide) (by decide) fun M1 hC1 e1 => RI.mk (RI.mk (v_X11_copy (m_row_y hr (RI.mk (br_f (by decide) (m_row_y hq (RI.mk (br_f (by decide) (br_t c ?_)))))))))
    exact m_refuse (f := 5) (hM.oth e1) (by decide) (by decide) fun M2 hM2 e2 => RI.mk (RI.mk ⟨rfl, Bo.mk (hk.sF 5) (hC1.oth (hk.sF 5) e2) hM2⟩)
  obtain ⟨k, hk31, rfl⟩ := nI_of c
  have hM74 : ∀ {M' : Mem}, EqC M M' → ∀ {r : Nat}, r < 6 → M'.1 74 r = oS (S.1.1 r) := fun e _ h => mrow (hM.oth e) h
  cases hn : S.1.1 r with
  | none =>
    refine there_ok RPk.R hC.1 hk.1 hr (RI.mk ?_)
    rw [hn]
    refine br_t rfl (c_finds (f := 1) hk hC (by decide) (by decide) fun M1 hC1 e1 => RI.mk (RI.mk (v_X11_copy (m_row_y hr (RI.mk (br_f (by decide) (m_row_y hq (RI.mk (br_f (by decide) (br_f c ⟨vin hr, ?_⟩))))))))))
    rw [ncl (by omega), hM74 e1 hr, hn]
    exact br_t m1_neg (m_refuse (f := 1) (hM.oth e1) (by decide) (by decide) fun M2 hM2 e2 => RI.mk (RI.mk ⟨rfl, Bo.mk (hk.sF 1) (hC1.oth (hk.sF 1) e2) hM2⟩))
  | some n =>
  have hn40 := hk.1 r hr n hn
  refine there_ok RPk.R hC.1 hk.1 hr (RI.mk ?_)
  rw [hn]
  refine br_f (show ¬ (1 : Int32) = 0 by decide) ?_
  cases hn2 : S.1.1 q with
  | none =>
    refine there_ok RPk.R hC.1 hk.1 hq (RI.mk ?_)
    rw [hn2]
    refine br_t rfl (c_finds (f := 1) hk hC (by decide) (by decide) fun M1 hC1 e1 => RI.mk (RI.mk (v_X11_copy (m_row_y hr (RI.mk (br_f (by decide) (m_row_y hq (RI.mk (br_f (by decide) (br_f c ⟨vin hr, ?_⟩))))))))))
    rw [ncl (by omega), hM74 e1 hr, hn]
    refine br_f (oSn_nneg (by omega)) ⟨vin hq, ?_⟩
    rw [ncl (by omega), hM74 e1 hq, hn2]
    exact br_t m1_neg (m_refuse (f := 1) (hM.oth e1) (by decide) (by decide) fun M2 hM2 e2 => RI.mk (RI.mk ⟨rfl, Bo.mk (hk.sF 1) (hC1.oth (hk.sF 1) e2) hM2⟩))
  | some n2 =>
  have hn240 := hk.1 q hq n2 hn2
  refine there_ok RPk.R hC.1 hk.1 hq (RI.mk ?_)
  rw [hn2]
  refine br_f (show ¬ (1 : Int32) = 0 by decide) ?_
  rcases rea_or n x2 k with hb | ⟨i, rfl, hi, hi31⟩
  · refine reach_n RPk.R hC.1 hk.1 hr hn hk31 hb (RI.mk (br_t rfl (c_finds (f := 2) hk hC (by decide) (by decide) fun M1 hC1 e1 => RI.mk (RI.mk (v_X11_copy (m_row_y hr (RI.mk (br_f (by decide) (m_row_y hq (RI.mk (br_f (by decide) (br_f c ⟨vin hr, ?_⟩))))))))))))
    rw [ncl (by omega), ncl (by omega), hM74 e1 hr, hM74 e1 hq, hn, hn2]
    refine br_f (oSn_nneg (by omega)) ⟨vin hq, br_f (oSn_nneg (by omega)) ⟨vin hr, m_in_n (in_rea_n (by omega) hk31 hb) (RI.mk (br_t rfl ?_))⟩⟩
    exact m_refuse (f := 2) (hM.oth e1) (by decide) (by decide) fun M2 hM2 e2 => RI.mk (RI.mk ⟨rfl, Bo.mk (hk.sF 2) (hC1.oth (hk.sF 2) e2) hM2⟩)
  refine reach_y RPk.R hC.1 hk.1 hr hn hi (RI.mk (br_f (by decide) ?_))
  rcases rea_or n2 x4 k with hb | ⟨j, rfl, hj, hj31⟩
  · refine reach_n RPk.R hC.1 hk.1 hq hn2 hk31 hb (RI.mk (br_t rfl (c_finds (f := 2) hk hC (by decide) (by decide) fun M1 hC1 e1 => RI.mk (RI.mk (v_X11_copy (m_row_y hr (RI.mk (br_f (by decide) (m_row_y hq (RI.mk (br_f (by decide) (br_f c ⟨vin hr, ?_⟩))))))))))))
    rw [ncl (by omega), ncl (by omega), hM74 e1 hr, hM74 e1 hq, hn, hn2]
    refine br_f (oSn_nneg (by omega)) ⟨vin hq, br_f (oSn_nneg (by omega)) ⟨vin hr, m_in_y (nI_pos hi31) (in_rea_y (by omega) hi) (RI.mk (br_f (by decide) ⟨vin hq, ?_⟩))⟩⟩
    rw [hM74 e1 hq, hn2]
    refine m_in_n (in_rea_n (by omega) hk31 hb) (RI.mk (br_t rfl ?_))
    exact m_refuse (f := 2) (hM.oth e1) (by decide) (by decide) fun M2 hM2 e2 => RI.mk (RI.mk ⟨rfl, Bo.mk (hk.sF 2) (hC1.oth (hk.sF 2) e2) hM2⟩)
  refine reach_y RPk.R hC.1 hk.1 hq hn2 hj (RI.mk (br_f (by decide) ?_))
  refine move_ok RPk.R hC.1 hk.1 hr hq hn hn2 hi hj (RV.mk (RI.mk (v_X11_copy (m_row_y hr (RI.mk (br_f (by decide) (m_row_y hq (RI.mk (br_f (by decide) (br_f c ⟨vin hr, ?_⟩))))))))))
  have eC := eqv_upC M (45 + r) (45 + q) i j k
  have e1 : EqC M (upC M (45 + r) (45 + q) i j k) := eC.mono (by omega)
  have hk' : SOk (rMov S.1 r i q j k, S.2) := hk
  have hC1 : RC (rMov S.1 r i q j k, S.2) (upC M (45 + r) (45 + q) i j k) := hC.sR hk eC (by omega) (hC.1.move (n2 := n2) RPk.R hr hq hn hi)
  rw [ncl (by omega), ncl (by omega), hM74 e1 hr, hM74 e1 hq, hn, hn2]
  refine br_f (oSn_nneg (by omega)) ⟨vin hq, br_f (oSn_nneg (by omega)) ⟨vin hr, m_in_y (nI_pos hi31) (in_rea_y (by omega) hi) (RI.mk (br_f (by decide) ⟨vin hq, ?_⟩))⟩⟩
  rw [hM74 e1 hq, hn2]
  refine m_in_y (nI_pos hj31) (in_rea_y (by omega) hj) (RI.mk (br_f (by decide) ?_))
  refine mcopy1 hr hq (by omega) (by omega) _ k 0 _ (by omega) Eqv.rf (fun m hm => absurd hm (Nat.not_lt_zero m)) fun M2 e2 hv => RI.mk ⟨rfl, Bo.mk hk' (hC1.oth hk' (e2.mono (by omega))) ?_⟩
  exact (hM.oth e1).sR e2 (by omega) ((hM.oth e1).1.move hk.1 hr hq hn hi (by omega) e2 hv)
/-- the sum of a row -/
def tot (f : Nat → Int32) : Nat → Int64
  | 0 => 0
  | n + 1 => tot f n + (f n).toInt64
theorem total_loop (hp : RPk th N mx fl zb rb) (hs : RowsC th N mx fl zb rb s M) (hk : ROk N mx s) (hr : r < N) {n : Nat} (hn : s.1 r = some n) (h : Q (some (.long (tot (s.2 r) n))) M) : ∀ (k i : Nat), i + k = n → P_X9_total_5 G th (nI r) (tot (s.2 r) i) (nI i) M Q := by
  obtain ⟨f1, f2, f3, f4, f5, f6, f7, f8, f9, -⟩ := hp.facts
  have := hk r hr n hn
  intro k
  induction k with
  | zero =>
    intro i hi
    have : i = n := by omega
    subst this
    refine v_X9_total_5 f1 (size_ok hp hs hr (RI.mk ?_))
    rw [hn]
    exact br_f (nI_nlt (Nat.le_refl _) (by omega)) h
  | succ k ih =>
    intro i hi
    refine v_X9_total_5 f1 (size_ok hp hs hr (RI.mk ?_))
    rw [hn]
    refine br_t (nI_lt (by omega) (by omega)) (read_ok hp hs hk hr hn (by omega) (RI.mk ?_))
    rw [nI_1]
    exact ih (i + 1) (by omega)
theorem total_ok (hp : RPk th N mx fl zb rb) (hs : RowsC th N mx fl zb rb s M) (hk : ROk N mx s) (hr : r < N) {n : Nat} (hn : s.1 r = some n) (h : Q (some (.long (tot (s.2 r) n))) M) : C_X9_total G th (nI r) M Q :=
  v_X9_total hp.facts.1 (total_loop hp hs hk hr hn h n 0 (by omega))
theorem nIl_n0 {n : Nat} (hn : n < 2 ^ 31) (h0 : 0 < n) : ¬ (nI n).toInt64 = 0 := by
  rw [nI_l hn, show (0 : Int64) = lN 0 from rfl, lN_eq hn (by decide)]
  omega
theorem mmean_loop (hk : SOk S) (hM : RM S M) (hr : r < 6) {n : Nat} (hn : S.1.1 r = some n) (h0 : 0 < n) (h : ∀ M', RM (sA S ((tot (S.1.2 r) n / (nI n).toInt64).toInt32)) M' → EqM M M' → Q (some (.int 1)) M') : ∀ (k i : Nat), i + k = n → P_X11_mean_44 G (nI r) (tot (S.1.2 r) i) (nI i) M Q := by
  have := hk.1 r hr n hn
  intro k
  induction k with
  | zero =>
    intro i hi
    have : i = n := by omega
    subst this
    refine v_X11_mean_44 ⟨vin hr, ?_⟩
    rw [ncl (by omega), mrow hM hr, hn]
    refine br_f (nI_nlt (Nat.le_refl _) (by omega)) ⟨vin hr, nIl_n0 (by omega) h0, m_tells hM fun M1 hM1 e1 => RI.mk (h M1 hM1 e1)⟩
  | succ k ih =>
    intro i hi
    refine v_X11_mean_44 ⟨vin hr, ?_⟩
    rw [ncl (by omega), mrow hM hr, hn]
    refine br_t (nI_lt (by omega) (by omega)) ?_
    rw [ix40]
    refine ⟨vin (by omega), ?_⟩
    rintro _ rfl
    rw [ncl (by omega), nI_1, (hM.1 r hr).2 n hn i (by omega)]
    exact ih (i + 1) (by omega)
/-- promise 7 -/
theorem law_mean (hB : Bo M) (x : Int32) : C_X10_mean G x M (RI fun r M1 => C_X11_mean G x M1 (RI fun r2 M2 => r = r2 ∧ Bo M2)) := by
  obtain ⟨S, hk, hC, hM⟩ := id hB
  rcases ix3 x (n := 6) (by decide) with hx | ⟨r, hr, rfl⟩
  · exact v_X10_mean (c_refRow_n hx (RI.mk (br_f (by decide) (RI.mk (v_X11_mean (m_row_n hx (RI.mk (br_t rfl (RI.mk ⟨rfl, hB⟩)))))))))
  cases hn : S.1.1 r with
  | none =>
    refine v_X10_mean (c_refRow_m hk hC hr hn fun M1 hC1 e1 => RI.mk (br_f (by decide) (RI.mk (v_X11_mean (m_row_y hr (RI.mk (br_f (by decide) ⟨vin hr, ?_⟩)))))))
    rw [ncl (by omega), mrow (hM.oth e1) hr, hn]
    exact br_t m1_neg (m_refuse (f := 1) (hM.oth e1) (by decide) (by decide) fun M2 hM2 e2 => RI.mk (RI.mk ⟨rfl, Bo.mk (hk.sF 1) (hC1.oth (hk.sF 1) e2) hM2⟩))
  | some n =>
    have hn40 := hk.1 r hr n hn
    refine v_X10_mean (c_refRow_y hk hC hr hn (RI.mk (br_t rfl (size_ok RPk.R hC.1 hr (RI.mk ?_)))))
    rw [hn]
    rcases Nat.eq_zero_or_pos n with e0 | e0
    · subst e0
      refine br_f (show ¬ (0 : Int32) < nI 0 by decide) (c_finds (f := 4) hk hC (by decide) (by decide) fun M1 hC1 e1 => RI.mk (RI.mk (v_X11_mean (m_row_y hr (RI.mk (br_f (by decide) ⟨vin hr, ?_⟩))))))
      rw [ncl (by omega), mrow (hM.oth e1) hr, hn]
      refine br_f (oSn_nneg (by omega)) ⟨vin hr, br_t rfl ?_⟩
      exact m_refuse (f := 4) (hM.oth e1) (by decide) (by decide) fun M2 hM2 e2 => RI.mk (RI.mk ⟨rfl, Bo.mk (hk.sF 4) (hC1.oth (hk.sF 4) e2) hM2⟩)
    · refine br_t (show nI 0 < nI n from nI_lt e0 (by omega)) (total_ok RPk.R hC.1 hk.1 hr hn (RJ.mk ⟨nIl_n0 (by omega) e0, c_tells hk hC fun M1 hC1 e1 => RI.mk (RI.mk (v_X11_mean (m_row_y hr (RI.mk (br_f (by decide) ⟨vin hr, ?_⟩)))))⟩))
      rw [ncl (by omega), mrow (hM.oth e1) hr, hn]
      refine br_f (oSn_nneg (by omega)) ⟨vin hr, br_f (nI_ne0 e0 (by omega)) ?_⟩
      exact mmean_loop hk (hM.oth e1) hr hn e0 (fun M2 hM2 e2 => RI.mk ⟨rfl, Bo.mk (hk.sA _) (hC1.oth (hk.sA _) e2) hM2⟩) n 0 (by omega)
end CP
