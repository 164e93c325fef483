/-! rows and texts of the class -/
def fu {α : Type} (f : Nat → α) (k : Nat) (v : α) : Nat → α := fun j => if j = k then v else f j
theorem fu_s {α : Type} (f : Nat → α) (k : Nat) (v : α) : fu f k v k = v := if_pos rfl
theorem fu_n {α : Type} (f : Nat → α) {k j : Nat} (v : α) (h : j ≠ k) : fu f k v j = f j := if_neg h
def oS (o : Option Nat) : Int32 := match o with
  | none => -1
  | some n => nI n
theorem oS_neg {o : Option Nat} : (∀ n, o = some n → n < 2 ^ 31) → (oS o < 0 ↔ o = none) := by
  intro h
  cases o with
  | none => simp only [oS, iff_true]; decide
  | some n => simp only [oS, reduceCtorEq, iff_false]; exact nI_pos (h n rfl)
theorem nI_nm1 {n : Nat} (h : n < 2 ^ 31) : ¬ nI n = -1 := by
  intro e
  have h2 := congrArg Int32.toInt e
  rw [nI_toInt h] at h2
  have h3 : (-1 : Int32).toInt = -1 := by decide
  omega
theorem oS_m1 {o : Option Nat} (h : ∀ n, o = some n → n < 2 ^ 31) : oS o = -1 ↔ o = none := by
  cases o with
  | none => simp [oS]
  | some n => simp [oS, nI_nm1 (h n rfl)]
theorem m1_lt {n : Nat} (h : n < 2 ^ 31) : ¬ nI n < -1 := by
  intro e
  have e2 := Int32.lt_iff_toInt_lt.mp e
  rw [nI_toInt h] at e2
  have h3 : (-1 : Int32).toInt = -1 := by decide
  omega
/-- sizes (none: missing) and places -/
abbrev RSt : Type := (Nat → Option Nat) × (Nat → Nat → Int32)
def rBeg (s : RSt) (r n : Nat) (fl : Int32) : RSt := (fu s.1 r (some n), fu s.2 r (fun _ => fl))
def rDrp (s : RSt) (r : Nat) : RSt := (fu s.1 r none, s.2)
def rWrt (s : RSt) (r i : Nat) (v : Int32) : RSt := (s.1, fu s.2 r (fu (s.2 r) i v))
def rMov (s : RSt) (r i q j n : Nat) : RSt := (s.1, fu s.2 q (va_cpy (s.2 r) (s.2 q) i j n))
/-- the two of them: number, how many, places at most, filler, where their sizes and places lie -/
def RPk (th N mx fl zb rb : Nat) : Prop := (th = 1 ∧ N = 6 ∧ mx = 40 ∧ fl = 0 ∧ zb = 3 ∧ rb = 45) ∨ (th = 4 ∧ N = 4 ∧ mx = 60 ∧ fl = 32 ∧ zb = 6 ∧ rb = 51)
def ROk (N mx : Nat) (s : RSt) : Prop := ∀ r, r < N → ∀ n, s.1 r = some n → n ≤ mx
def RowsC (th N mx fl zb rb : Nat) (s : RSt) (M : Mem) : Prop := M.1 th 2 = nI mx ∧ M.1 th 3 = nI fl ∧ ∀ r, r < N → M.1 zb r = oS (s.1 r) ∧ ∀ n, s.1 r = some n → ∀ i, i < n → M.1 (rb + r) i = s.2 r i
theorem RPk.facts {th N mx fl zb rb : Nat} (h : RPk th N mx fl zb rb) : kd th = 9 ∧ rf th 1 = zb ∧ ln zb = N ∧ kd zb = 20 ∧ (∀ r, rf (rf th 0) r = rb + r) ∧ ln (rf th 0) = N ∧ (∀ r, r < N → ln (rb + r) = mx) ∧ N ≤ 6 ∧ mx ≤ 60 ∧ fl ≤ 32 ∧ th < zb ∧ zb < rb ∧ 3 ≤ N ∧ 40 ≤ mx ∧ zb < 7 ∧ rb + N ≤ 55 := by
  rcases h with ⟨rfl, rfl, rfl, rfl, rfl, rfl⟩ | ⟨rfl, rfl, rfl, rfl, rfl, rfl⟩
  · refine ⟨rfl, rfl, rfl, rfl, fun r => rfl, rfl, ?_, by omega, by omega, by omega, by omega, by omega, by omega, by omega, by omega, by omega⟩
    intro r hr
    rcases lt6 hr with rfl | rfl | rfl | rfl | rfl | rfl <;> rfl
  · refine ⟨rfl, rfl, rfl, rfl, fun r => rfl, rfl, ?_, by omega, by omega, by omega, by omega, by omega, by omega, by omega, by omega, by omega⟩
    intro r hr
    rcases lt6 (show r < 6 by omega) with rfl | rfl | rfl | rfl | rfl | rfl <;> first | rfl | omega
theorem RowsC.eqv {th N mx fl zb rb : Nat} {s : RSt} {M M' : Mem} {P : Nat → Nat → Prop} (h : RowsC th N mx fl zb rb s M) (e : Eqv P M M') (hp : ∀ a k, P a k → ¬ (a = th ∧ 2 ≤ k ∧ k ≤ 3) ∧ ¬ a = zb ∧ ¬ (rb ≤ a ∧ a < rb + N)) : RowsC th N mx fl zb rb s M' := by
  refine ⟨by rw [e.i (fun q => (hp _ _ q).1 (by omega))]; exact h.1, by rw [e.i (fun q => (hp _ _ q).1 (by omega))]; exact h.2.1, fun r hr => ⟨by rw [e.i (fun q => (hp _ _ q).2.1 rfl)]; exact (h.2.2 r hr).1, fun n hn i hi => ?_⟩⟩
  rw [e.i (fun q => (hp _ _ q).2.2 (by omega))]
  exact (h.2.2 r hr).2 n hn i hi
section ROW
variable {G : Glob} {M : Mem} {Q : Option Value → Mem → Prop} {th N mx fl zb rb r : Nat} {s : RSt}
theorem num_in (hp : RPk th N mx fl zb rb) (hr : r < N) (h : Q (some (.int 1)) M) : C_X9_isNumber G th (nI r) M Q := by
  obtain ⟨f1, f2, f3, f4, f5, f6, f7, f8, -⟩ := hp.facts
  refine v_X9_isNumber f1 (br_f (nI_pos (by omega)) ?_)
  rw [f2, f3]
  exact br_t (nI_lt hr (by omega)) h
theorem num_out (hp : RPk th N mx fl zb rb) {x : Int32} (hx : x < 0 ∨ nI N ≤ x) (h : Q (some (.int 0)) M) : C_X9_isNumber G th x M Q := by
  obtain ⟨f1, f2, f3, f4, f5, f6, f7, f8, -⟩ := hp.facts
  refine v_X9_isNumber f1 ⟨fun _ => h, fun c => ?_⟩
  rw [f2, f3]
  exact br_f (fun q => (hx.resolve_left c) |> fun w => Int32.not_le.mpr q w) h
theorem size_ok (hp : RPk th N mx fl zb rb) (hs : RowsC th N mx fl zb rb s M) (hr : r < N) (h : Q (some (.int (oS (s.1 r)))) M) : C_X9_sizeOf G th (nI r) M Q := by
  obtain ⟨f1, f2, f3, f4, f5, f6, f7, f8, -⟩ := hp.facts
  refine v_X9_sizeOf f1 (num_in hp hr (RI.mk (br_f (by decide) ⟨?_, ?_⟩)))
  · rw [f2, f3]; exact vin hr (by omega)
  · rw [f2, ncl (by omega), (hs.2.2 r hr).1]; exact h
theorem there_ok (hp : RPk th N mx fl zb rb) (hs : RowsC th N mx fl zb rb s M) (hk : ROk N mx s) (hr : r < N) (h : Q (some (.int (bI (s.1 r).isSome))) M) : C_X9_isThere G th (nI r) M Q := by
  obtain ⟨f1, f2, f3, f4, f5, f6, f7, f8, f9, -⟩ := hp.facts
  refine v_X9_isThere f1 (size_ok hp hs hr (RI.mk ?_))
  rw [oS_m1 (fun n hn => by have := hk r hr n hn; omega)]
  refine ⟨fun e => ?_, fun e => ?_⟩
  · rw [e] at h; exact h
  · obtain ⟨n, hn⟩ := Option.ne_none_iff_exists'.mp e
    rw [hn] at h; exact h
theorem holds_yes (hp : RPk th N mx fl zb rb) (hs : RowsC th N mx fl zb rb s M) (hk : ROk N mx s) (hr : r < N) {n i : Nat} (hn : s.1 r = some n) (hi : i < n) (h : Q (some (.int 1)) M) : C_X9_holds G th (nI r) (nI i) M Q := by
  obtain ⟨f1, f2, f3, f4, f5, f6, f7, f8, f9, -⟩ := hp.facts
  have := hk r hr n hn
  refine v_X9_holds f1 (br_f (nI_pos (by omega)) (size_ok hp hs hr (RI.mk ?_)))
  rw [hn]
  exact br_t (nI_lt hi (by omega)) h
theorem holds_no (hp : RPk th N mx fl zb rb) (hs : RowsC th N mx fl zb rb s M) (hr : r < N) {x : Int32} (hx : x < 0 ∨ oS (s.1 r) ≤ x) (h : Q (some (.int 0)) M) : C_X9_holds G th (nI r) x M Q := by
  obtain ⟨f1, f2, f3, f4, f5, f6, f7, f8, f9, -⟩ := hp.facts
  refine v_X9_holds f1 ⟨fun _ => h, fun c => size_ok hp hs hr (RI.mk ?_)⟩
  exact br_f (Int32.not_lt.mpr (hx.resolve_left c)) h
theorem read_ok (hp : RPk th N mx fl zb rb) (hs : RowsC th N mx fl zb rb s M) (hk : ROk N mx s) (hr : r < N) {n i : Nat} (hn : s.1 r = some n) (hi : i < n) (h : Q (some (.int (s.2 r i))) M) : C_X9_read G th (nI r) (nI i) M Q := by
  obtain ⟨f1, f2, f3, f4, f5, f6, f7, f8, f9, -⟩ := hp.facts
  have := hk r hr n hn
  refine v_X9_read f1 (holds_yes hp hs hk hr hn hi (RI.mk (br_f (by decide) ⟨?_, ?_, ?_⟩)))
  · rw [f6]; exact vin hr (by omega)
  · rw [ncl (by omega), f5, f7 r hr]; exact vin (by omega) (by omega)
  · rw [ncl (by omega), ncl (by omega), f5, (hs.2.2 r hr).2 n hn i hi]; exact h
theorem read_no (hp : RPk th N mx fl zb rb) (hs : RowsC th N mx fl zb rb s M) (hr : r < N) {x : Int32} (hx : x < 0 ∨ oS (s.1 r) ≤ x) (h : Q (some (.int 0)) M) : C_X9_read G th (nI r) x M Q := by
  obtain ⟨f1, f2, f3, f4, f5, f6, f7, f8, f9, -⟩ := hp.facts
  exact v_X9_read f1 (holds_no hp hs hr hx (RI.mk (br_t (by decide) h)))
theorem RowsC.write (hp : RPk th N mx fl zb rb) (hs : RowsC th N mx fl zb rb s M) (hr : r < N) (i : Nat) (v : Int32) : RowsC th N mx fl zb rb (rWrt s r i v) (upI M (rb + r) i v) := by
  obtain ⟨f1, f2, f3, f4, f5, f6, f7, f8, f9, f10, f11, f12, -⟩ := hp.facts
  refine ⟨by rw [upI_n _ _ (by omega)]; exact hs.1, by rw [upI_n _ _ (by omega)]; exact hs.2.1, fun r' hr' => ⟨by rw [upI_n _ _ (by omega)]; exact (hs.2.2 r' hr').1, fun n hn j hj => ?_⟩⟩
  show _ = fu s.2 r (fu (s.2 r) i v) r' j
  by_cases e : r' = r
  · subst e
    rw [fu_s]
    by_cases e2 : j = i
    · subst e2; rw [fu_s, upI_s]
    · rw [fu_n _ _ e2, upI_n _ _ (by omega)]; exact (hs.2.2 r' hr').2 n hn j hj
  · rw [fu_n _ _ e, upI_n _ _ (by omega)]; exact (hs.2.2 r' hr').2 n hn j hj
theorem write_ok (hp : RPk th N mx fl zb rb) (hs : RowsC th N mx fl zb rb s M) (hk : ROk N mx s) (hr : r < N) {n i : Nat} {v : Int32} (hn : s.1 r = some n) (hi : i < n) (h : Q none (upI M (rb + r) i v)) : C_X9_write G th (nI r) (nI i) v M Q := by
  obtain ⟨f1, f2, f3, f4, f5, f6, f7, f8, f9, -⟩ := hp.facts
  have := hk r hr n hn
  refine v_X9_write f1 (holds_yes hp hs hk hr hn hi (RI.mk (br_f (by decide) ⟨?_, ?_, ?_⟩)))
  · rw [f6]; exact vin hr (by omega)
  · rw [ncl (by omega), f5, f7 r hr]; exact vin (by omega) (by omega)
  · rintro _ rfl
    rw [ncl (by omega), ncl (by omega), f5]; exact h
theorem drop_ok (hp : RPk th N mx fl zb rb) (hr : r < N) (h : Q none (upI M zb r (-1))) : C_X9_drop G th (nI r) M Q := by
  obtain ⟨f1, f2, f3, f4, f5, f6, f7, f8, f9, -⟩ := hp.facts
  refine v_X9_drop f1 (num_in hp hr (RI.mk (br_f (by decide) ⟨by rw [f2, f3]; exact vin hr (by omega), ?_⟩)))
  rintro _ rfl
  rw [f2, ncl (by omega)]
  exact h
theorem RowsC.drop (hp : RPk th N mx fl zb rb) (hs : RowsC th N mx fl zb rb s M) (hr : r < N) : RowsC th N mx fl zb rb (rDrp s r) (upI M zb r (-1)) := by
  obtain ⟨f1, f2, f3, f4, f5, f6, f7, f8, f9, f10, f11, f12, -⟩ := hp.facts
  refine ⟨by rw [upI_n _ _ (by omega)]; exact hs.1, by rw [upI_n _ _ (by omega)]; exact hs.2.1, fun r' hr' => ?_⟩
  show _ = oS (fu s.1 r none r') ∧ ∀ n, fu s.1 r none r' = some n → _
  by_cases e : r' = r
  · subst e
    rw [fu_s, upI_s]
    exact ⟨rfl, fun n hn => by cases hn⟩
  · rw [fu_n _ _ e, upI_n _ _ (by omega)]
    refine ⟨(hs.2.2 r' hr').1, fun n hn i hi => ?_⟩
    rw [upI_n _ _ (by omega)]
    exact (hs.2.2 r' hr').2 n hn i hi
/-- a row is begun -/
theorem begin_loop (hp : RPk th N mx fl zb rb) (hr : r < N) {n : Nat} (hn : n ≤ mx) (M0 : Mem) : ∀ (k i : Nat) (M : Mem), i + k = n → Eqv (fun a _ => a = rb + r) M0 M → M0.1 th 3 = nI fl → (∀ j, j < i → M.1 (rb + r) j = nI fl) →
    (∀ M', Eqv (fun a _ => a = rb + r) M0 M' → (∀ j, j < n → M'.1 (rb + r) j = nI fl) → Q none M') → P_X9_begin_30 G th (nI r) (nI n) (nI i) M Q := by
  obtain ⟨f1, f2, f3, f4, f5, f6, f7, f8, f9, f10, f11, f12, -⟩ := hp.facts
  intro k
  induction k with
  | zero =>
    intro i M hi he hf hj hQ
    have : i = n := by omega
    subst this
    exact v_X9_begin_30 f1 (br_f (nI_nlt (Nat.le_refl _) (by omega)) (hQ M he hj))
  | succ k ih =>
    intro i M hi he hf hj hQ
    refine v_X9_begin_30 f1 (br_t (nI_lt (by omega) (by omega)) ⟨by rw [f6]; exact vin hr (by omega), by rw [ncl (by omega), f5, f7 r hr]; exact vin (by omega) (by omega), ?_⟩)
    rintro _ rfl
    rw [ncl (by omega), ncl (by omega), f5, he.i (show ¬ th = rb + r by omega), hf, nI_1]
    refine ih (i + 1) _ (by omega) (he.upI rfl) hf (fun j hj' => ?_) hQ
    by_cases e : j = i
    · subst e; rw [upI_s]
    · rw [upI_n _ _ (by omega)]; exact hj j (by omega)
theorem begin_ok (hp : RPk th N mx fl zb rb) (hs : RowsC th N mx fl zb rb s M) (hr : r < N) {n : Nat} (hn : n ≤ mx) (h : ∀ M', Eqv (fun a k => a = rb + r ∨ (a = zb ∧ k = r)) M M' → RowsC th N mx fl zb rb (rBeg s r n (nI fl)) M' → Q none M') : C_X9_begin G th (nI r) (nI n) M Q := by
  obtain ⟨f1, f2, f3, f4, f5, f6, f7, f8, f9, f10, f11, f12, -⟩ := hp.facts
  refine v_X9_begin f1 (num_in hp hr (RI.mk (br_f (by decide) (br_f (nI_pos (by omega)) ?_))))
  rw [hs.1]
  refine br_f (nI_nlt hn (by omega)) ⟨by rw [f2, f3]; exact vin hr (by omega), ?_⟩
  rintro _ rfl
  rw [f2, ncl (by omega)]
  refine begin_loop hp hr hn _ n 0 _ (by omega) Eqv.rf (by rw [upI_n _ _ (by omega)]; exact hs.2.1) (fun j hj => absurd hj (Nat.not_lt_zero j)) fun M' he hj => ?_
  have he2 : Eqv (fun a k => a = rb + r ∨ (a = zb ∧ k = r)) M M' := (Eqv.rf.upI (Or.inr ⟨rfl, rfl⟩)).tr (he.mono fun a k q => Or.inl q)
  refine h M' he2 ⟨by rw [he2.i (by omega)]; exact hs.1, by rw [he2.i (by omega)]; exact hs.2.1, fun r' hr' => ?_⟩
  show _ = oS (fu s.1 r (some n) r') ∧ ∀ n', fu s.1 r (some n) r' = some n' → ∀ i, i < n' → _ = fu s.2 r (fun _ => nI fl) r' i
  by_cases e : r' = r
  · subst e
    rw [fu_s, fu_s, he.i (by omega), upI_s]
    refine ⟨rfl, fun n' hn' i hi => ?_⟩
    cases hn'
    exact hj i hi
  · rw [fu_n _ _ e, fu_n _ _ e, he2.i (by omega)]
    refine ⟨(hs.2.2 r' hr').1, fun n hn i hi => ?_⟩
    rw [he2.i (by omega)]
    exact (hs.2.2 r' hr').2 n hn i hi
theorem ROk.beg (hk : ROk N mx s) {n : Nat} (hn : n ≤ mx) (v : Int32) : ROk N mx (rBeg s r n v) := fun r' hr' n' h => by
  unfold rBeg at h
  by_cases e : r' = r
  · subst e; simp only [fu_s] at h; cases h; exact hn
  · simp only [fu_n _ _ e] at h; exact hk r' hr' n' h
theorem ROk.drp (hk : ROk N mx s) : ROk N mx (rDrp s r) := fun r' hr' n' h => by
  unfold rDrp at h
  by_cases e : r' = r
  · subst e; simp only [fu_s] at h; cases h
  · simp only [fu_n _ _ e] at h; exact hk r' hr' n' h
end ROW
