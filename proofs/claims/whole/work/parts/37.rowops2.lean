section RR2
variable {G : Glob} {M : Mem} {Q : Option Value → Mem → Prop} {S : St} {th N mx fl zb rb r : Nat} {s : RSt}
theorem c_refPl_n {x y : Int32} (hx : x < 0 ∨ nI 6 ≤ x) (h : Q (some (.int (-1))) M) : C_X10_refusedPlace G x y M Q := v_X10_refusedPlace (c_refRow_n hx (RI.mk (br_f (by decide) h)))
theorem c_refPl_m (hk : SOk S) (hC : RC S M) (hr : r < 6) (hn : S.1.1 r = none) {y : Int32} (h : ∀ M', RC (sF S 1) M' → EqC M M' → Q (some (.int (-3))) M') : C_X10_refusedPlace G (nI r) y M Q :=
  v_X10_refusedPlace (c_refRow_m hk hC hr hn fun M1 h1 e1 => RI.mk (br_f (by decide) (h M1 h1 e1)))
theorem c_refPl_b (hk : SOk S) (hC : RC S M) (hr : r < 6) {n : Nat} (hn : S.1.1 r = some n) {y : Int32} (hy : y < 0 ∨ nI n ≤ y) (h : ∀ M', RC (sF S 2) M' → EqC M M' → Q (some (.int (-3))) M') : C_X10_refusedPlace G (nI r) y M Q :=
  v_X10_refusedPlace (c_refRow_y hk hC hr hn (RI.mk (br_t rfl (holds_no RPk.R hC.1 hr (by rw [hn]; exact hy) (RI.mk (br_t rfl (c_finds (f := 2) hk hC (by decide) (by decide) fun M1 hC1 e1 => RI.mk (h M1 hC1 e1))))))))
theorem c_refPl_y (hk : SOk S) (hC : RC S M) (hr : r < 6) {n i : Nat} (hn : S.1.1 r = some n) (hi : i < n) (h : Q (some (.int 0)) M) : C_X10_refusedPlace G (nI r) (nI i) M Q :=
  v_X10_refusedPlace (c_refRow_y hk hC hr hn (RI.mk (br_t rfl (holds_yes RPk.R hC.1 hk.1 hr hn hi (RI.mk (br_f (by decide) h))))))
theorem mrow (hM : RM S M) (hr : r < 6) : M.1 74 r = oS (S.1.1 r) := (hM.1 r hr).1
theorem mtxt (hM : RM S M) (hr : r < 4) : M.1 76 r = oS (S.2.1.1 r) := (hM.2.1 r hr).1
theorem m1_neg : oS none < 0 := by decide
theorem oSn_nneg {n : Nat} (h : n < 2 ^ 31) : ¬ oS (some n) < 0 := nI_pos h
theorem in_n {x : Int32} {n : Nat} (hn : n < 2 ^ 30) (hx : x < 0 ∨ nI n ≤ x) : x < 0 ∨ nI n - 1 < x := by
  rcases hx with h | h
  · exact Or.inl h
  · refine Or.inr ?_
    rcases Nat.eq_zero_or_pos n with e | e
    · subst e
      rw [Int32.lt_iff_toInt_lt, show (nI 0 - 1 : Int32).toInt = -1 by decide]
      have := Int32.le_iff_toInt_le.mp h
      rw [show (nI 0).toInt = 0 by decide] at this
      omega
    · rw [show (1 : Int32) = nI 1 from rfl, pk_sub e]
      have := (nlt_le (x := x) (n := n - 1) (by omega)).mpr
      rw [show n - 1 + 1 = n by omega] at this
      exact this h
theorem in_y {i n : Nat} (hn : n < 2 ^ 30) (hi : i < n) : ¬ nI n - 1 < nI i := by
  rw [show (1 : Int32) = nI 1 from rfl, pk_sub (by omega)]
  exact nI_nlt (by omega) (by omega)
theorem law_at (hB : Bo M) (x y : Int32) : C_X10_at G x y M (RI fun r M1 => C_X11_at G x y M1 (RI fun r2 M2 => r = r2 ∧ Bo M2)) := by
  obtain ⟨S, hk, hC, hM⟩ := id hB
  rcases ix3 x (n := 6) (by decide) with hx | ⟨r, hr, rfl⟩
  · exact v_X10_at (c_refPl_n hx (RI.mk (br_f (by decide) (RI.mk (v_X11_at (m_row_n hx (RI.mk (br_t rfl (RI.mk ⟨rfl, hB⟩)))))))))
  cases hn : S.1.1 r with
  | none =>
    refine v_X10_at (c_refPl_m hk hC hr hn fun M1 hC1 e1 => RI.mk (br_f (by decide) (RI.mk (v_X11_at (m_row_y hr (RI.mk (br_f (by decide) ⟨vin hr, ?_⟩)))))))
    rw [ncl (by omega), mrow (hM.oth e1) hr, hn]
    exact br_t m1_neg (m_refuse (f := 1) (hM.oth e1) (by decide) (by decide) fun M2 hM2 e2 => RI.mk (RI.mk ⟨rfl, Bo.mk (hk.sF 1) (hC1.oth (hk.sF 1) e2) hM2⟩))
  | some n =>
    have hn40 := hk.1 r hr n hn
    rcases ix3 y (n := n) (by omega) with hy | ⟨i, hi, rfl⟩
    · refine v_X10_at (c_refPl_b hk hC hr hn hy fun M1 hC1 e1 => RI.mk (br_f (by decide) (RI.mk (v_X11_at (m_row_y hr (RI.mk (br_f (by decide) ⟨vin hr, ?_⟩)))))))
      rw [ncl (by omega), mrow (hM.oth e1) hr, hn]
      refine br_f (oSn_nneg (by omega)) ⟨vin hr, m_in_n (in_n (by omega) hy) (RI.mk (br_t rfl ?_))⟩
      exact m_refuse (f := 2) (hM.oth e1) (by decide) (by decide) fun M2 hM2 e2 => RI.mk (RI.mk ⟨rfl, Bo.mk (hk.sF 2) (hC1.oth (hk.sF 2) e2) hM2⟩)
    · refine v_X10_at (c_refPl_y hk hC hr hn hi (RI.mk (br_t rfl (read_ok RPk.R hC.1 hk.1 hr hn hi (RI.mk (c_tells hk hC fun M1 hC1 e1 => RI.mk (RI.mk (v_X11_at (m_row_y hr (RI.mk (br_f (by decide) ⟨vin hr, ?_⟩)))))))))))
      rw [ncl (by omega), mrow (hM.oth e1) hr, hn]
      refine br_f (oSn_nneg (by omega)) ⟨vin hr, m_in_y (nI_pos (by omega)) (in_y (by omega) hi) (RI.mk (br_f (by decide) ?_))⟩
      rw [ix40]
      refine ⟨vin (by omega), ?_⟩
      rw [ncl (by omega), ((hM.oth e1).1 r hr).2 n hn i hi]
      exact m_tells (hM.oth e1) fun M2 hM2 e2 => RI.mk (RI.mk ⟨rfl, Bo.mk (hk.sA _) (hC1.oth (hk.sA _) e2) hM2⟩)
theorem law_lay (hB : Bo M) (x y z : Int32) : C_X10_lay G x y z M (RI fun r M1 => C_X11_lay G x y z M1 (RI fun r2 M2 => r = r2 ∧ Bo M2)) := by
  obtain ⟨S, hk, hC, hM⟩ := id hB
  rcases ix3 x (n := 6) (by decide) with hx | ⟨r, hr, rfl⟩
  · exact v_X10_lay (c_refPl_n hx (RI.mk (br_f (by decide) (RI.mk (v_X11_lay (m_row_n hx (RI.mk (br_t rfl (RI.mk ⟨rfl, hB⟩)))))))))
  cases hn : S.1.1 r with
  | none =>
    refine v_X10_lay (c_refPl_m hk hC hr hn fun M1 hC1 e1 => RI.mk (br_f (by decide) (RI.mk (v_X11_lay (m_row_y hr (RI.mk (br_f (by decide) ⟨vin hr, ?_⟩)))))))
    rw [ncl (by omega), mrow (hM.oth e1) hr, hn]
    exact br_t m1_neg (m_refuse (f := 1) (hM.oth e1) (by decide) (by decide) fun M2 hM2 e2 => RI.mk (RI.mk ⟨rfl, Bo.mk (hk.sF 1) (hC1.oth (hk.sF 1) e2) hM2⟩))
  | some n =>
    have hn40 := hk.1 r hr n hn
    rcases ix3 y (n := n) (by omega) with hy | ⟨i, hi, rfl⟩
    · refine v_X10_lay (c_refPl_b hk hC hr hn hy fun M1 hC1 e1 => RI.mk (br_f (by decide) (RI.mk (v_X11_lay (m_row_y hr (RI.mk (br_f (by decide) ⟨vin hr, ?_⟩)))))))
      rw [ncl (by omega), mrow (hM.oth e1) hr, hn]
      refine br_f (oSn_nneg (by omega)) ⟨vin hr, m_in_n (in_n (by omega) hy) (RI.mk (br_t rfl ?_))⟩
      exact m_refuse (f := 2) (hM.oth e1) (by decide) (by decide) fun M2 hM2 e2 => RI.mk (RI.mk ⟨rfl, Bo.mk (hk.sF 2) (hC1.oth (hk.sF 2) e2) hM2⟩)
    · have hk' : SOk (rWrt S.1 r i z, S.2) := hk
      have eC : Eqv (fun a k => a = 45 + r) M (upI M (45 + r) i z) := Eqv.rf.upI rfl
      have hC0 : RC (rWrt S.1 r i z, S.2) (upI M (45 + r) i z) := hC.sR hk eC (by omega) (hC.1.write RPk.R hr i z)
      refine v_X10_lay (c_refPl_y hk hC hr hn hi (RI.mk (br_t rfl (read_ok RPk.R hC.1 hk.1 hr hn hi (RI.mk (write_ok RPk.R hC.1 hk.1 hr hn hi (RV.mk (c_tells hk' hC0 fun M1 hC1 e1 => RI.mk (RI.mk (v_X11_lay (m_row_y hr (RI.mk (br_f (by decide) ⟨vin hr, ?_⟩)))))))))))))
      have hM1 : RM S M1 := (hM.oth (eC.mono (by omega))).oth e1
      rw [ncl (by omega), mrow hM1 hr, hn]
      refine br_f (oSn_nneg (by omega)) ⟨vin hr, m_in_y (nI_pos (by omega)) (in_y (by omega) hi) (RI.mk (br_f (by decide) ?_))⟩
      rw [ix40]
      refine ⟨vin (by omega), ?_⟩
      rintro _ rfl
      refine ⟨vin (by omega), ?_⟩
      rintro _ rfl
      rw [ncl (by omega), (hM1.1 r hr).2 n hn i hi]
      have eM : Eqv (fun a k => a = 73) M1 (upI M1 73 (40 * r + i) z) := Eqv.rf.upI rfl
      have hM2 : RM (rWrt S.1 r i z, S.2) (upI M1 73 (40 * r + i) z) := hM1.sR eM (by omega) (hM1.1.wr40 hk.1 hr (by omega) z)
      exact m_tells hM2 fun M2 hM3 e2 => RI.mk (RI.mk ⟨rfl, Bo.mk (hk'.sA _) ((hC1.oth (hk'.sA _) (eM.mono (by omega))).oth (hk'.sA _) e2) hM3⟩)
theorem law_tear (hB : Bo M) (x : Int32) : C_X10_tear G x M (RI fun r M1 => C_X11_tear G x M1 (RI fun r2 M2 => r = r2 ∧ Bo M2)) := by
  obtain ⟨S, hk, hC, hM⟩ := id hB
  rcases ix3 x (n := 6) (by decide) with hx | ⟨r, hr, rfl⟩
  · exact v_X10_tear (c_refRow_n hx (RI.mk (br_f (by decide) (RI.mk (v_X11_tear (m_row_n hx (RI.mk (br_t rfl (RI.mk ⟨rfl, hB⟩)))))))))
  cases hn : S.1.1 r with
  | none =>
    refine v_X10_tear (c_refRow_m hk hC hr hn fun M1 hC1 e1 => RI.mk (br_f (by decide) (RI.mk (v_X11_tear (m_row_y hr (RI.mk (br_f (by decide) ⟨vin hr, ?_⟩)))))))
    rw [ncl (by omega), mrow (hM.oth e1) hr, hn]
    exact br_t m1_neg (m_refuse (f := 1) (hM.oth e1) (by decide) (by decide) fun M2 hM2 e2 => RI.mk (RI.mk ⟨rfl, Bo.mk (hk.sF 1) (hC1.oth (hk.sF 1) e2) hM2⟩))
  | some n =>
    have hn40 := hk.1 r hr n hn
    have hk' : SOk (rDrp S.1 r, S.2) := ⟨hk.1.drp, hk.2⟩
    have eC : Eqv (fun a k => a = 3) M (upI M 3 r (-1)) := Eqv.rf.upI rfl
    have hC1 : RC (rDrp S.1 r, S.2) (upI M 3 r (-1)) := hC.sR hk eC (by omega) (hC.1.drop RPk.R hr)
    have hM1 : RM S (upI M 3 r (-1)) := hM.oth (eC.mono (by omega))
    refine v_X10_tear (c_refRow_y hk hC hr hn (RI.mk (br_t rfl (drop_ok RPk.R hr (RV.mk (RI.mk (v_X11_tear (m_row_y hr (RI.mk (br_f (by decide) ⟨vin hr, ?_⟩))))))))))
    rw [ncl (by omega), mrow hM1 hr, hn]
    refine br_f (oSn_nneg (by omega)) ⟨vin hr, ?_⟩
    rintro _ rfl
    have eM : Eqv (fun a k => a = 74) (upI M 3 r (-1)) (upI (upI M 3 r (-1)) 74 r (-1)) := Eqv.rf.upI rfl
    exact RI.mk ⟨rfl, Bo.mk hk' (hC1.oth hk' (eM.mono (by omega))) (hM1.sR eM (by omega) (hM1.1.drp))⟩
theorem i8_twice (x : Int32) : x.toInt8.toInt32.toInt8.toInt32 = x.toInt8.toInt32 := by simp
theorem law_put (hB : Bo M) (x y z : Int32) : C_X10_put G x y z M (RI fun r M1 => C_X11_put G x y z M1 (RI fun r2 M2 => r = r2 ∧ Bo M2)) := by
  obtain ⟨S, hk, hC, hM⟩ := id hB
  rcases ix3 x (n := 4) (by decide) with hx | ⟨r, hr, rfl⟩
  · exact v_X10_put (c_refTxt_n hx (RI.mk (br_f (by decide) (RI.mk (v_X11_put (m_text_n hx (RI.mk (br_t rfl (RI.mk ⟨rfl, hB⟩)))))))))
  cases hn : S.2.1.1 r with
  | none =>
    refine v_X10_put (c_refTxt_m hk hC hr hn fun M1 hC1 e1 => RI.mk (br_f (by decide) (RI.mk (v_X11_put (m_text_y hr (RI.mk (br_f (by decide) ⟨vin hr, ?_⟩)))))))
    rw [ncl (by omega), mtxt (hM.oth e1) hr, hn]
    exact br_t m1_neg (m_refuse (f := 1) (hM.oth e1) (by decide) (by decide) fun M2 hM2 e2 => RI.mk (RI.mk ⟨rfl, Bo.mk (hk.sF 1) (hC1.oth (hk.sF 1) e2) hM2⟩))
  | some n =>
    have hn40 := hk.2.1 r hr n hn
    rcases ix3 y (n := n) (by omega) with hy | ⟨i, hi, rfl⟩
    · refine v_X10_put (c_refTxt_y hk hC hr hn (RI.mk (br_t rfl (holds_no RPk.T hC.2.1 hr (by rw [hn]; exact hy) (RI.mk (br_t rfl (c_finds (f := 2) hk hC (by decide) (by decide) fun M1 hC1 e1 => RI.mk (RI.mk (v_X11_put (m_text_y hr (RI.mk (br_f (by decide) ⟨vin hr, ?_⟩)))))))))))) 
      rw [ncl (by omega), mtxt (hM.oth e1) hr, hn]
      refine br_f (oSn_nneg (by omega)) ⟨vin hr, m_in_n (in_n (by omega) hy) (RI.mk (br_t rfl ?_))⟩
      exact m_refuse (f := 2) (hM.oth e1) (by decide) (by decide) fun M2 hM2 e2 => RI.mk (RI.mk ⟨rfl, Bo.mk (hk.sF 2) (hC1.oth (hk.sF 2) e2) hM2⟩)
    · have hk' : SOk (S.1, rWrt S.2.1 r i z.toInt8.toInt32, S.2.2) := hk
      have eC : Eqv (fun a k => a = 51 + r) M (upI M (51 + r) i z.toInt8.toInt32) := Eqv.rf.upI rfl
      have hC0 : RC (S.1, rWrt S.2.1 r i z.toInt8.toInt32, S.2.2) (upI M (51 + r) i z.toInt8.toInt32) := hC.sT hk eC (by omega) (hC.2.1.write RPk.T hr i _)
      refine v_X10_put (c_refTxt_y hk hC hr hn (RI.mk (br_t rfl (holds_yes RPk.T hC.2.1 hk.2.1 hr hn hi (RI.mk (br_f (by decide) (read_ok RPk.T hC.2.1 hk.2.1 hr hn hi (RI.mk (write_ok RPk.T hC.2.1 hk.2.1 hr hn hi (RV.mk (RI.mk (v_X11_put (m_text_y hr (RI.mk (br_f (by decide) ⟨vin hr, ?_⟩))))))))))))))) 
      have hM1 : RM S (upI M (51 + r) i z.toInt8.toInt32) := hM.oth (eC.mono (by omega))
      rw [ncl (by omega), mtxt hM1 hr, hn]
      refine br_f (oSn_nneg (by omega)) ⟨vin hr, m_in_y (nI_pos (by omega)) (in_y (by omega) hi) (RI.mk (br_f (by decide) ?_))⟩
      rw [ix60]
      refine ⟨vin (by omega), ?_⟩
      rintro _ rfl
      refine ⟨vin (by omega), ?_⟩
      rintro _ rfl
      rw [ncl (by omega), (hM1.2.1 r hr).2 n hn i hi, i8_twice]
      have eM : Eqv (fun a k => a = 75) (upI M (51 + r) i z.toInt8.toInt32) (upI (upI M (51 + r) i z.toInt8.toInt32) 75 (60 * r + i) z.toInt8.toInt32) := Eqv.rf.upI rfl
      exact RI.mk ⟨rfl, Bo.mk hk' (hC0.oth hk' (eM.mono (by omega))) (hM1.sT eM (by omega) (hM1.2.1.wr60 hk.2.1 hr (by omega) _))⟩
end RR2
