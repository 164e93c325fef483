/-! promises 2 to 9: rows, texts -/
section RR
variable {G : Glob} {M : Mem} {Q : Option Value → Mem → Prop} {S : St} {th N mx fl zb rb r : Nat} {s : RSt}
theorem ix40 (r i : Nat) : (40 : Int32) * nI r + nI i = nI (40 * r + i) := by rw [show (40 : Int32) = nI 40 from rfl, pk_mul, nI_add]
theorem ix60 (r i : Nat) : (60 : Int32) * nI r + nI i = nI (60 * r + i) := by rw [show (60 : Int32) = nI 60 from rfl, pk_mul, nI_add]
theorem RowsM.wr40 {s : RSt} (hs : RowsM 6 40 74 73 s M) (hk : ROk 6 40 s) {r i : Nat} (hr : r < 6) (hi : i < 40) (v : Int32) : RowsM 6 40 74 73 (rWrt s r i v) (upI M 73 (40 * r + i) v) := by
  intro r' hr'
  refine ⟨by rw [upI_n _ _ (by omega)]; exact (hs r' hr').1, fun n hn j hj => ?_⟩
  have h40 := hk r' hr' n hn
  show _ = fu s.2 r (fu (s.2 r) i v) r' j
  by_cases e : r' = r
  · subst e
    rw [fu_s]
    by_cases e2 : j = i
    · subst e2; rw [fu_s, upI_s]
    · rw [fu_n _ _ e2, upI_n _ _ (by omega)]; exact (hs r' hr').2 n hn j hj
  · rw [fu_n _ _ e, upI_n _ _ (by omega)]; exact (hs r' hr').2 n hn j hj
theorem RowsM.wr60 {s : RSt} (hs : RowsM 4 60 76 75 s M) (hk : ROk 4 60 s) {r i : Nat} (hr : r < 4) (hi : i < 60) (v : Int32) : RowsM 4 60 76 75 (rWrt s r i v) (upI M 75 (60 * r + i) v) := by
  intro r' hr'
  refine ⟨by rw [upI_n _ _ (by omega)]; exact (hs r' hr').1, fun n hn j hj => ?_⟩
  have h40 := hk r' hr' n hn
  show _ = fu s.2 r (fu (s.2 r) i v) r' j
  by_cases e : r' = r
  · subst e
    rw [fu_s]
    by_cases e2 : j = i
    · subst e2; rw [fu_s, upI_s]
    · rw [fu_n _ _ e2, upI_n _ _ (by omega)]; exact (hs r' hr').2 n hn j hj
  · rw [fu_n _ _ e, upI_n _ _ (by omega)]; exact (hs r' hr').2 n hn j hj
theorem RowsM.drp {s : RSt} (hs : RowsM 6 40 74 73 s M) {r : Nat} : RowsM 6 40 74 73 (rDrp s r) (upI M 74 r (-1)) := by
  intro r' hr'
  show _ = oS (fu s.1 r none r') ∧ ∀ n, fu s.1 r none r' = some n → _
  by_cases e : r' = r
  · subst e
    rw [fu_s, upI_s]
    exact ⟨rfl, fun n hn => by cases hn⟩
  · rw [fu_n _ _ e, upI_n _ _ (by omega)]
    refine ⟨(hs r' hr').1, fun n hn i hi => ?_⟩
    rw [upI_n _ _ (by omega)]
    exact (hs r' hr').2 n hn i hi
theorem clear_loop {r : Nat} (hr : r < 6) (M0 : Mem) : ∀ (k i : Nat) (M : Mem), i + k = 40 → Eqv (fun a j => a = 73 ∧ 40 * r ≤ j ∧ j < 40 * r + 40) M0 M → (∀ j, j < i → M.1 73 (40 * r + j) = 0) →
    (∀ M', Eqv (fun a j => a = 73 ∧ 40 * r ≤ j ∧ j < 40 * r + 40) M0 M' → (∀ j, j < 40 → M'.1 73 (40 * r + j) = 0) → Q none M') → P_X11_clearRow_9 G (nI r) (nI i) M Q := by
  intro k
  induction k with
  | zero =>
    intro i M hi he hj hQ
    have : i = 40 := by omega
    subst this
    exact v_X11_clearRow_9 (br_f (by decide) (hQ M he hj))
  | succ k ih =>
    intro i M hi he hj hQ
    refine v_X11_clearRow_9 (br_t (show nI i < nI 40 from nI_lt (by omega) (by omega)) ?_)
    rw [ix40]
    refine ⟨vin (by omega), ?_⟩
    rintro _ rfl
    rw [ncl (by omega), nI_1]
    refine ih (i + 1) _ (by omega) (he.upI ⟨rfl, by omega, by omega⟩) (fun j hj' => ?_) hQ
    by_cases e : j = i
    · subst e; rw [upI_s]
    · rw [upI_n _ _ (by omega)]; exact hj j (by omega)
theorem clear_ok {s : RSt} (hs : RowsM 6 40 74 73 s M) (hk : ROk 6 40 s) {r n : Nat} (hr : r < 6) (hn : n ≤ 40) (h : ∀ M', Eqv (fun a k => (a = 73 ∧ 40 * r ≤ k ∧ k < 40 * r + 40) ∨ (a = 74 ∧ k = r)) M M' → RowsM 6 40 74 73 (rBeg s r n 0) M' → Q none M') : C_X11_clearRow G (nI r) (nI n) M Q := by
  refine v_X11_clearRow ⟨vin hr, ?_⟩
  rintro _ rfl
  rw [ncl (by omega)]
  refine clear_loop hr _ 40 0 _ rfl Eqv.rf (fun j hj => absurd hj (Nat.not_lt_zero j)) fun M' he hj => ?_
  have he2 : Eqv (fun a k => (a = 73 ∧ 40 * r ≤ k ∧ k < 40 * r + 40) ∨ (a = 74 ∧ k = r)) M M' := (Eqv.rf.upI (Or.inr ⟨rfl, rfl⟩)).tr (he.mono fun a k q => Or.inl q)
  refine h M' he2 fun r' hr' => ?_
  show _ = oS (fu s.1 r (some n) r') ∧ ∀ n', fu s.1 r (some n) r' = some n' → ∀ i, i < n' → _ = fu s.2 r (fun _ => 0) r' i
  by_cases e : r' = r
  · subst e
    rw [fu_s, fu_s, he.i (by omega), upI_s]
    refine ⟨rfl, fun n' hn' i hi => ?_⟩
    cases hn'
    exact hj i (by omega)
  · rw [fu_n _ _ e, fu_n _ _ e, he2.i (by omega)]
    refine ⟨(hs r' hr').1, fun n' hn' i hi => ?_⟩
    have := hk r' hr' n' hn'
    rw [he2.i (by omega)]
    exact (hs r' hr').2 n' hn' i hi
theorem txt_loop {r n : Nat} (hr : r < 4) (M0 : Mem) : ∀ (k i : Nat) (M : Mem), i + k = 60 → Eqv (fun a j => a = 75 ∧ 60 * r ≤ j ∧ j < 60 * r + 60) M0 M → (∀ j, j < i → M.1 75 (60 * r + j) = 32) →
    (∀ M', Eqv (fun a j => a = 75 ∧ 60 * r ≤ j ∧ j < 60 * r + 60) M0 M' → (∀ j, j < 60 → M'.1 75 (60 * r + j) = 32) → Q (some (.int (nI n))) M') → P_X11_text_34 G (nI r) (nI n) (nI i) M Q := by
  intro k
  induction k with
  | zero =>
    intro i M hi he hj hQ
    have : i = 60 := by omega
    subst this
    exact v_X11_text_34 (br_f (by decide) (hQ M he hj))
  | succ k ih =>
    intro i M hi he hj hQ
    refine v_X11_text_34 (br_t (show nI i < nI 60 from nI_lt (by omega) (by omega)) ?_)
    rw [ix60]
    refine ⟨vin (by omega), ?_⟩
    rintro _ rfl
    rw [ncl (by omega), nI_1, show (32 : Int32).toInt8.toInt32 = 32 by decide]
    refine ih (i + 1) _ (by omega) (he.upI ⟨rfl, by omega, by omega⟩) (fun j hj' => ?_) hQ
    by_cases e : j = i
    · subst e; rw [upI_s]
    · rw [upI_n _ _ (by omega)]; exact hj j (by omega)
theorem Bo.mk (hk : SOk S) (hC : RC S M) (hM : RM S M) : Bo M := ⟨S, hk, hC, hM⟩
/-- promise 2 -/
theorem law_row (hB : Bo M) (x y : Int32) : C_X10_row G x y M (RI fun r M1 => C_X11_row G x y M1 (RI fun r2 M2 => r = r2 ∧ Bo M2)) := by
  obtain ⟨S, hk, hC, hM⟩ := id hB
  rcases ix3 x (n := 6) (by decide) with hx | ⟨r, hr, rfl⟩
  · exact v_X10_row (num_out RPk.R hx (RI.mk (br_t rfl (RI.mk (v_X11_row (m_row_n hx (RI.mk (br_t rfl (RI.mk ⟨rfl, hB⟩)))))))))
  · refine v_X10_row (num_in RPk.R hr (RI.mk (br_f (by decide) ⟨fun c => RI.mk (v_X11_row (m_row_y hr (RI.mk (br_f (by decide) (br_t c (RI.mk ⟨rfl, hB⟩)))))), fun c => ⟨fun c2 => ?_, fun c2 => ?_⟩⟩)))
    · refine c_finds (f := 5) hk hC (by decide) (by decide) fun M1 hC1 e1 => RI.mk (RI.mk (v_X11_row (m_row_y hr (RI.mk (br_f (by decide) (br_f c (br_t c2 ?_)))))))
      exact m_refuse (f := 5) (hM.oth e1) (by decide) (by decide) fun M2 hM2 e2 => RI.mk (RI.mk ⟨rfl, Bo.mk (hk.sF 5) (hC1.oth (hk.sF 5) e2) hM2⟩)
    · obtain ⟨n, hn, rfl⟩ := nI_of2 (n := 40) (M := 40) (by decide) c2 (Int32.not_lt.mp c)
      refine begin_ok RPk.R hC.1 hr hn fun M1 e1 hC1 => RV.mk (RI.mk (v_X11_row (m_row_y hr (RI.mk (br_f (by decide) (br_f c (br_f c2 ?_)))))))
      have hk' : SOk (rBeg S.1 r n 0, S.2) := ⟨hk.1.beg hn 0, hk.2⟩
      refine clear_ok (RowsM.eqv hM.1 e1 (by omega)) hk.1 hr hn fun M2 e2 hM2 => RV.mk (RI.mk ⟨rfl, Bo.mk hk' (RC.oth hk' (hC.sR hk e1 (by omega) hC1) (e2.mono (by omega))) (RM.sR (hM.oth (e1.mono (by omega))) e2 (by omega) hM2)⟩)
/-- promise 8 -/
theorem law_text (hB : Bo M) (x y : Int32) : C_X10_text G x y M (RI fun r M1 => C_X11_text G x y M1 (RI fun r2 M2 => r = r2 ∧ Bo M2)) := by
  obtain ⟨S, hk, hC, hM⟩ := id hB
  rcases ix3 x (n := 4) (by decide) with hx | ⟨r, hr, rfl⟩
  · exact v_X10_text (num_out RPk.T hx (RI.mk (br_t rfl (RI.mk (v_X11_text (m_text_n hx (RI.mk (br_t rfl (RI.mk ⟨rfl, hB⟩)))))))))
  · refine v_X10_text (num_in RPk.T hr (RI.mk (br_f (by decide) ⟨fun c => RI.mk (v_X11_text (m_text_y hr (RI.mk (br_f (by decide) (br_t c (RI.mk ⟨rfl, hB⟩)))))), fun c => ⟨fun c2 => ?_, fun c2 => ?_⟩⟩)))
    · refine c_finds (f := 5) hk hC (by decide) (by decide) fun M1 hC1 e1 => RI.mk (RI.mk (v_X11_text (m_text_y hr (RI.mk (br_f (by decide) (br_f c (br_t c2 ?_)))))))
      exact m_refuse (f := 5) (hM.oth e1) (by decide) (by decide) fun M2 hM2 e2 => RI.mk (RI.mk ⟨rfl, Bo.mk (hk.sF 5) (hC1.oth (hk.sF 5) e2) hM2⟩)
    · obtain ⟨n, hn, rfl⟩ := nI_of2 (n := 60) (M := 60) (by decide) c2 (Int32.not_lt.mp c)
      refine begin_ok RPk.T hC.2.1 hr hn fun M1 e1 hC1 => RV.mk (RI.mk (v_X11_text (m_text_y hr (RI.mk (br_f (by decide) (br_f c (br_f c2 ⟨vin hr, ?_⟩)))))))
      rintro _ rfl
      rw [ncl (by omega)]
      have hk' : SOk (S.1, rBeg S.2.1 r n (nI 32), S.2.2) := ⟨hk.1, hk.2.1.beg hn (nI 32), hk.2.2⟩
      refine txt_loop hr _ 60 0 _ rfl Eqv.rf (fun j hj => absurd hj (Nat.not_lt_zero j)) fun M2 he hj => ?_
      have he2 : Eqv (fun a k => (a = 75 ∧ 60 * r ≤ k ∧ k < 60 * r + 60) ∨ (a = 76 ∧ k = r)) M1 M2 := (Eqv.rf.upI (Or.inr ⟨rfl, rfl⟩)).tr (he.mono fun a k q => Or.inl q)
      have hM1 : RM S M1 := hM.oth (e1.mono (by omega))
      refine RI.mk ⟨rfl, Bo.mk hk' (RC.oth hk' (hC.sT hk e1 (by omega) hC1) (he2.mono (by omega))) (RM.sT hM1 he2 (by omega) fun r' hr' => ?_)⟩
      show _ = oS (fu S.2.1.1 r (some n) r') ∧ ∀ n', fu S.2.1.1 r (some n) r' = some n' → ∀ i, i < n' → _ = fu S.2.1.2 r (fun _ => nI 32) r' i
      by_cases e : r' = r
      · subst e
        rw [fu_s, fu_s, he.i (by omega), upI_s]
        refine ⟨rfl, fun n' hn' i hi => ?_⟩
        cases hn'
        exact hj i (by omega)
      · rw [fu_n _ _ e, fu_n _ _ e, he2.i (by omega)]
        refine ⟨(hM1.2.1 r' hr').1, fun n' hn' i hi => ?_⟩
        have := hk.2.1 r' hr' n' hn'
        rw [he2.i (by omega)]
        exact (hM1.2.1 r' hr').2 n' hn' i hi
/-- a row that is none, or missing: refused alike -/
theorem c_refRow_n {x : Int32} (hx : x < 0 ∨ nI 6 ≤ x) (h : Q (some (.int (-1))) M) : C_X10_refusedRow G x M Q := v_X10_refusedRow (num_out RPk.R hx (RI.mk (br_t rfl h)))
theorem c_refRow_m (hk : SOk S) (hC : RC S M) (hr : r < 6) (hn : S.1.1 r = none) (h : ∀ M', RC (sF S 1) M' → EqC M M' → Q (some (.int (-3))) M') : C_X10_refusedRow G (nI r) M Q := by
  refine v_X10_refusedRow (num_in RPk.R hr (RI.mk (br_f (by decide) (there_ok RPk.R hC.1 hk.1 hr (RI.mk ?_)))))
  rw [hn]
  exact br_t rfl (c_finds (f := 1) hk hC (by decide) (by decide) fun M1 hC1 e1 => RI.mk (h M1 hC1 e1))
theorem c_refRow_y (hk : SOk S) (hC : RC S M) (hr : r < 6) {n : Nat} (hn : S.1.1 r = some n) (h : Q (some (.int 0)) M) : C_X10_refusedRow G (nI r) M Q := by
  refine v_X10_refusedRow (num_in RPk.R hr (RI.mk (br_f (by decide) (there_ok RPk.R hC.1 hk.1 hr (RI.mk ?_)))))
  rw [hn]
  exact br_f (show ¬ (1 : Int32) = 0 by decide) h
theorem c_refTxt_n {x : Int32} (hx : x < 0 ∨ nI 4 ≤ x) (h : Q (some (.int (-1))) M) : C_X10_refusedText G x M Q := v_X10_refusedText (num_out RPk.T hx (RI.mk (br_t rfl h)))
theorem c_refTxt_m (hk : SOk S) (hC : RC S M) (hr : r < 4) (hn : S.2.1.1 r = none) (h : ∀ M', RC (sF S 1) M' → EqC M M' → Q (some (.int (-3))) M') : C_X10_refusedText G (nI r) M Q := by
  refine v_X10_refusedText (num_in RPk.T hr (RI.mk (br_f (by decide) (there_ok RPk.T hC.2.1 hk.2.1 hr (RI.mk ?_)))))
  rw [hn]
  exact br_t rfl (c_finds (f := 1) hk hC (by decide) (by decide) fun M1 hC1 e1 => RI.mk (h M1 hC1 e1))
theorem c_refTxt_y (hk : SOk S) (hC : RC S M) (hr : r < 4) {n : Nat} (hn : S.2.1.1 r = some n) (h : Q (some (.int 0)) M) : C_X10_refusedText G (nI r) M Q := by
  refine v_X10_refusedText (num_in RPk.T hr (RI.mk (br_f (by decide) (there_ok RPk.T hC.2.1 hk.2.1 hr (RI.mk ?_)))))
  rw [hn]
  exact br_f (show ¬ (1 : Int32) = 0 by decide) h
end RR
