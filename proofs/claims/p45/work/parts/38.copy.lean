section CP
variable {G : Glob} {M : Mem} {Q : Option Value → Mem → Prop} {S : St} {th N mx fl zb rb r : Nat} {s : RSt}
theorem sub_toInt {a b : Int32} (h1 : -2147483648 ≤ a.toInt - b.toInt) (h2 : a.toInt - b.toInt < 2147483648) : (a - b).toInt = a.toInt - b.toInt := by
  rw [Int32.toInt_sub]
  exact Int.bmod_eq_of_le (by omega) (by omega)
/-- what a piece needs -/
def reaY (n i k : Nat) : Prop := i + k ≤ n
def reaN (n : Nat) (x : Int32) (k : Nat) : Prop := x < 0 ∨ ∃ i, x = nI i ∧ i < 2 ^ 31 ∧ n < i + k
theorem rea_or (n : Nat) (x : Int32) (k : Nat) : reaN n x k ∨ ∃ i, x = nI i ∧ i + k ≤ n ∧ i < 2 ^ 31 := by
  by_cases h : x < 0
  · exact Or.inl (Or.inl h)
  · obtain ⟨i, hi, rfl⟩ := nI_of h
    by_cases h2 : i + k ≤ n
    · exact Or.inr ⟨i, rfl, h2, hi⟩
    · exact Or.inl (Or.inr ⟨i, rfl, hi, by omega⟩)
theorem reach_y (hp : RPk th N mx fl zb rb) (hs : RowsC th N mx fl zb rb s M) (hk : ROk N mx s) (hr : r < N) {n i k : Nat} (hn : s.1 r = some n) (hi : i + k ≤ n) (h : Q (some (.int 1)) M) : C_X9_reaches G th (nI r) (nI i) (nI k) M Q := by
  obtain ⟨f1, f2, f3, f4, f5, f6, f7, f8, f9, -⟩ := hp.facts
  have := hk r hr n hn
  refine v_X9_reaches f1 (size_ok hp hs hr (RI.mk (br_f (nI_pos (by omega)) ?_)))
  rw [hn]
  refine br_f (nI_nlt (by omega) (by omega)) (br_f (nI_pos (by omega)) ?_)
  rw [show oS (some n) = nI n from rfl, pk_sub (by omega)]
  exact br_f (nI_nlt (by omega) (by omega)) h
theorem reach_n (hp : RPk th N mx fl zb rb) (hs : RowsC th N mx fl zb rb s M) (hk : ROk N mx s) (hr : r < N) {n k : Nat} {x : Int32} (hn : s.1 r = some n) (hk2 : k < 2 ^ 31) (hx : reaN n x k) (h : Q (some (.int 0)) M) : C_X9_reaches G th (nI r) x (nI k) M Q := by
  obtain ⟨f1, f2, f3, f4, f5, f6, f7, f8, f9, -⟩ := hp.facts
  have := hk r hr n hn
  refine v_X9_reaches f1 (size_ok hp hs hr (RI.mk ?_))
  rcases hx with hx | ⟨i, rfl, hi, hlt⟩
  · exact br_t hx h
  · refine br_f (nI_pos hi) ?_
    rw [hn]
    refine ⟨fun _ => h, fun c => ⟨fun _ => h, fun _ => ?_⟩⟩
    have hin : i ≤ n := by
      rcases Nat.lt_or_ge n i with q | q
      · exact absurd (nI_lt q hi) c
      · exact q
    rw [show oS (some n) = nI n from rfl, pk_sub hin]
    exact br_t (nI_lt (by omega) hk2) h
theorem move_ok (hp : RPk th N mx fl zb rb) (hs : RowsC th N mx fl zb rb s M) (hk : ROk N mx s) {q : Nat} (hr : r < N) (hq : q < N) {n n2 i j k : Nat} (hn : s.1 r = some n) (hn2 : s.1 q = some n2) (hi : i + k ≤ n) (hj : j + k ≤ n2) (h : Q none (upC M (rb + r) (rb + q) i j k)) : C_X9_move G th (nI r) (nI i) (nI q) (nI j) (nI k) M Q := by
  obtain ⟨f1, f2, f3, f4, f5, f6, f7, f8, f9, -⟩ := hp.facts
  have := hk r hr n hn
  have := hk q hq n2 hn2
  refine v_X9_move f1 (reach_y hp hs hk hr hn hi (RI.mk (br_f (by decide) (reach_y hp hs hk hq hn2 hj (RI.mk (br_f (by decide) ⟨by rw [f6]; exact vin hr (by omega), by rw [f6]; exact vin hq (by omega), nI_pos (by omega), nI_pos (by omega), nI_pos (by omega), ?_, ?_, ?_⟩))))))
  · rw [ncl (by omega), ncl (by omega), ncl (by omega), f5, f7 r hr]; omega
  · rw [ncl (by omega), ncl (by omega), ncl (by omega), f5, f7 q hq]; omega
  · rintro _ rfl
    rw [ncl (by omega), ncl (by omega), ncl (by omega), ncl (by omega), ncl (by omega), f5, f5]
    exact h
theorem eqv_upC (M : Mem) (a b sp dp n : Nat) : Eqv (fun q _ => q = b) M (upC M a b sp dp n) := fun q j hn => ⟨by simp only [upC]; rw [if_neg hn], rfl⟩
theorem RowsC.move (hp : RPk th N mx fl zb rb) (hs : RowsC th N mx fl zb rb s M) (hr : r < N) {q : Nat} (hq : q < N) {n n2 i j k : Nat} (hn : s.1 r = some n) (hi : i + k ≤ n) : RowsC th N mx fl zb rb (rMov s r i q j k) (upC M (rb + r) (rb + q) i j k) := by
  obtain ⟨f1, f2, f3, f4, f5, f6, f7, f8, f9, f10, f11, f12, -⟩ := hp.facts
  have e := eqv_upC M (rb + r) (rb + q) i j k
  refine ⟨by rw [e.i (by omega)]; exact hs.1, by rw [e.i (by omega)]; exact hs.2.1, fun r' hr' => ⟨by rw [e.i (by omega)]; exact (hs.2.2 r' hr').1, fun n' hn' t ht => ?_⟩⟩
  show _ = fu s.2 q (va_cpy (s.2 r) (s.2 q) i j k) r' t
  by_cases e2 : r' = q
  · subst e2
    rw [fu_s]
    show (if rb + r' = rb + r' then va_cpy (M.1 (rb + r)) (M.1 (rb + r')) i j k t else M.1 (rb + r') t) = _
    rw [if_pos rfl]
    by_cases c : j ≤ t ∧ t < j + k
    · rw [pk_cpy_in c.1 c.2, pk_cpy_in c.1 c.2]
      exact (hs.2.2 r hr).2 n hn _ (by omega)
    · rw [pk_cpy_out (by omega), pk_cpy_out (by omega)]
      exact (hs.2.2 r' hr').2 n' hn' t ht
  · rw [fu_n _ _ e2, e.i (by omega)]
    exact (hs.2.2 r' hr').2 n' hn' t ht
theorem ix40k (r i k : Nat) : (40 : Int32) * nI r + nI i + nI k = nI (40 * r + i + k) := by rw [ix40, nI_add]
theorem RowsM.move {s : RSt} {M' : Mem} (hs : RowsM 6 40 74 73 s M) (hk : ROk 6 40 s) (hr : r < 6) {q : Nat} (hq : q < 6) {n i j k : Nat} (hn : s.1 r = some n) (hi : i + k ≤ n) (hj : j + k ≤ 40) (e : Eqv (fun a _ => a = 73 ∨ a = 77) M M') (hv : ∀ m, M'.1 73 m = if 40 * q + j ≤ m ∧ m < 40 * q + j + k then M.1 73 (40 * r + i + (m - (40 * q + j))) else M.1 73 m) : RowsM 6 40 74 73 (rMov s r i q j k) M' := by
  intro r' hr'
  refine ⟨by rw [e.i (by omega)]; exact (hs r' hr').1, fun n' hn' t ht => ?_⟩
  have h40 := hk r' hr' n' hn'
  have h40' := hk r hr n hn
  show _ = fu s.2 q (va_cpy (s.2 r) (s.2 q) i j k) r' t
  rw [hv]
  by_cases e2 : r' = q
  · subst e2
    rw [fu_s]
    by_cases c : j ≤ t ∧ t < j + k
    · rw [pk_cpy_in c.1 c.2, if_pos (by omega), show 40 * r + i + (40 * r' + t - (40 * r' + j)) = 40 * r + (i + (t - j)) by omega]
      exact (hs r hr).2 n hn _ (by omega)
    · rw [pk_cpy_out (by omega), if_neg (by omega)]
      exact (hs r' hr').2 n' hn' t ht
  · rw [fu_n _ _ e2, if_neg (by omega)]
    exact (hs r' hr').2 n' hn' t ht
theorem in_rea_n {n k : Nat} {x : Int32} (hn : n < 2 ^ 30) (hk : k < 2 ^ 31) (hx : reaN n x k) : x < 0 ∨ nI n - nI k < x := by
  rcases hx with h | ⟨i, rfl, hi, hlt⟩
  · exact Or.inl h
  · refine Or.inr ?_
    rw [Int32.lt_iff_toInt_lt, sub_toInt (by rw [nI_toInt (by omega), nI_toInt hk]; omega) (by rw [nI_toInt (by omega), nI_toInt hk]; omega), nI_toInt (by omega), nI_toInt hk, nI_toInt hi]
    omega
theorem in_rea_y {n i k : Nat} (hn : n < 2 ^ 30) (hi : i + k ≤ n) : ¬ nI n - nI k < nI i := by
  rw [pk_sub (by omega)]
  exact nI_nlt (by omega) (by omega)
/-- the sum of a row -/
def tot (f : Nat → Int32) : Nat → Int64
  | 0 => 0
  | n + 1 => tot f n + (f n).toInt64
theorem total_loop (hp : RPk th N mx fl zb rb) (hs : RowsC th N mx fl zb rb s M) (hk : ROk N mx s) (hr : r < N) {n : Nat} (hn : s.1 r = some n) (h : Q (some (.long (tot (s.2 r) n))) M) : ∀ (k i : Nat), i + k = n → P_X9_total_5 G th (nI r) (tot (s.2 r) i) (nI i) M Q := by
  obtain ⟨f1, f2, f3, f4, f5, f6, f7, f8, f9, -⟩ := hp.facts
  have := hk r hr n hn
  intro k
  induction k with
  | zero =>
    intro i hi
    have : i = n := by omega
    subst this
    refine v_X9_total_5 f1 (size_ok hp hs hr (RI.mk ?_))
    rw [hn]
    exact br_f (nI_nlt (Nat.le_refl _) (by omega)) h
  | succ k ih =>
    intro i hi
    refine v_X9_total_5 f1 (size_ok hp hs hr (RI.mk ?_))
    rw [hn]
    refine br_t (nI_lt (by omega) (by omega)) (read_ok hp hs hk hr hn (by omega) (RI.mk ?_))
    rw [nI_1]
    exact ih (i + 1) (by omega)
theorem total_ok (hp : RPk th N mx fl zb rb) (hs : RowsC th N mx fl zb rb s M) (hk : ROk N mx s) (hr : r < N) {n : Nat} (hn : s.1 r = some n) (h : Q (some (.long (tot (s.2 r) n))) M) : C_X9_total G th (nI r) M Q :=
  v_X9_total hp.facts.1 (total_loop hp hs hk hr hn h n 0 (by omega))
theorem nIl_n0 {n : Nat} (hn : n < 2 ^ 31) (h0 : 0 < n) : ¬ (nI n).toInt64 = 0 := by
  rw [nI_l hn, show (0 : Int64) = lN 0 from rfl, lN_eq hn (by decide)]
  omega
end CP
