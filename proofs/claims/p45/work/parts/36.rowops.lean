/-! promises 2 to 9: rows, texts -/
section RR
variable {G : Glob} {M : Mem} {Q : Option Value → Mem → Prop} {S : St} {th N mx fl zb rb r : Nat} {s : RSt}
theorem ix40 (r i : Nat) : (40 : Int32) * nI r + nI i = nI (40 * r + i) := by rw [show (40 : Int32) = nI 40 from rfl, pk_mul, nI_add]
theorem ix60 (r i : Nat) : (60 : Int32) * nI r + nI i = nI (60 * r + i) := by rw [show (60 : Int32) = nI 60 from rfl, pk_mul, nI_add]
theorem RowsM.wr40 {s : RSt} (hs : RowsM 6 40 74 73 s M) (hk : ROk 6 40 s) {r i : Nat} (hr : r < 6) (hi : i < 40) (v : Int32) : RowsM 6 40 74 73 (rWrt s r i v) (upI M 73 (40 * r + i) v) := by
  intro r' hr'
  refine ⟨by rw [upI_n _ _ (by omega)]; exact (hs r' hr').1, fun n hn j hj => ?_⟩
  have h40 := hk r' hr' n hn
  show _ = fu s.2 r (fu (s.2 r) i v) r' j
  by_cases e : r' = r
  · subst e
    rw [fu_s]
    by_cases e2 : j = i
    · subst e2; rw [fu_s, upI_s]
    · rw [fu_n _ _ e2, upI_n _ _ (by omega)]; exact (hs r' hr').2 n hn j hj
  · rw [fu_n _ _ e, upI_n _ _ (by omega)]; exact (hs r' hr').2 n hn j hj
theorem RowsM.wr60 {s : RSt} (hs : RowsM 4 60 76 75 s M) (hk : ROk 4 60 s) {r i : Nat} (hr : r < 4) (hi : i < 60) (v : Int32) : RowsM 4 60 76 75 (rWrt s r i v) (upI M 75 (60 * r + i) v) := by
  intro r' hr'
  refine ⟨by rw [upI_n _ _ (by omega)]; exact (hs r' hr').1, fun n hn j hj => ?_⟩
  have h40 := hk r' hr' n hn
  show _ = fu s.2 r (fu (s.2 r) i v) r' j
  by_cases e : r' = r
  · subst e
    rw [fu_s]
    by_cases e2 : j = i
    · subst e2; rw [fu_s, upI_s]
    · rw [fu_n _ _ e2, upI_n _ _ (by omega)]; exact (hs r' hr').2 n hn j hj
  · rw [fu_n _ _ e, upI_n _ _ (by omega)]; exact (hs r' hr').2 n hn j hj
theorem RowsM.drp {s : RSt} (hs : RowsM 6 40 74 73 s M) {r : Nat} : RowsM 6 40 74 73 (rDrp s r) (upI M 74 r (-1)) := by
  intro r' hr'
  show _ = oS (fu s.1 r none r') ∧ ∀ n, fu s.1 r none r' = some n → _
  by_cases e : r' = r
  · subst e
    rw [fu_s, upI_s]
    exact ⟨rfl, fun n hn => by cases hn⟩
  · rw [fu_n _ _ e, upI_n _ _ (by omega)]
    refine ⟨(hs r' hr').1, fun n hn i hi => ?_⟩
    rw [upI_n _ _ (by omega)]
    exact (hs r' hr').2 n hn i hi
theorem Bo.mk (hk : SOk S) (hC : RC S M) (hM : RM S M) : Bo M := ⟨S, hk, hC, hM⟩
/-- a row that is none, or missing: refused alike -/
theorem c_refRow_n {x : Int32} (hx : x < 0 ∨ nI 6 ≤ x) (h : Q (some (.int (-1))) M) : C_X10_refusedRow G x M Q := v_X10_refusedRow (num_out RPk.R hx (RI.mk (br_t rfl h)))
theorem c_refRow_m (hk : SOk S) (hC : RC S M) (hr : r < 6) (hn : S.1.1 r = none) (h : ∀ M', RC (sF S 1) M' → EqC M M' → Q (some (.int (-3))) M') : C_X10_refusedRow G (nI r) M Q := by
  refine v_X10_refusedRow (num_in RPk.R hr (RI.mk (br_f (by decide) (there_ok RPk.R hC.1 hk.1 hr (RI.mk ?_)))))
  rw [hn]
  exact br_t rfl (c_finds (f := 1) hk hC (by decide) (by decide) fun M1 hC1 e1 => RI.mk (h M1 hC1 e1))
theorem c_refRow_y (hk : SOk S) (hC : RC S M) (hr : r < 6) {n : Nat} (hn : S.1.1 r = some n) (h : Q (some (.int 0)) M) : C_X10_refusedRow G (nI r) M Q := by
  refine v_X10_refusedRow (num_in RPk.R hr (RI.mk (br_f (by decide) (there_ok RPk.R hC.1 hk.1 hr (RI.mk ?_)))))
  rw [hn]
  exact br_f (show ¬ (1 : Int32) = 0 by decide) h
theorem c_refTxt_n {x : Int32} (hx : x < 0 ∨ nI 4 ≤ x) (h : Q (some (.int (-1))) M) : C_X10_refusedText G x M Q := v_X10_refusedText (num_out RPk.T hx (RI.mk (br_t rfl h)))
theorem c_refTxt_m (hk : SOk S) (hC : RC S M) (hr : r < 4) (hn : S.2.1.1 r = none) (h : ∀ M', RC (sF S 1) M' → EqC M M' → Q (some (.int (-3))) M') : C_X10_refusedText G (nI r) M Q := by
  refine v_X10_refusedText (num_in RPk.T hr (RI.mk (br_f (by decide) (there_ok RPk.T hC.2.1 hk.2.1 hr (RI.mk ?_)))))
  rw [hn]
  exact br_t rfl (c_finds (f := 1) hk hC (by decide) (by decide) fun M1 hC1 e1 => RI.mk (h M1 hC1 e1))
theorem c_refTxt_y (hk : SOk S) (hC : RC S M) (hr : r < 4) {n : Nat} (hn : S.2.1.1 r = some n) (h : Q (some (.int 0)) M) : C_X10_refusedText G (nI r) M Q := by
  refine v_X10_refusedText (num_in RPk.T hr (RI.mk (br_f (by decide) (there_ok RPk.T hC.2.1 hk.2.1 hr (RI.mk ?_)))))
  rw [hn]
  exact br_f (show ¬ (1 : Int32) = 0 by decide) h
end RR
