/-! promises 12 to 21 -/
section GLW
variable {G : Glob} {M : Mem} {Q : Option Value → Mem → Prop} {n : Nat} {S : St} {D : Dr}
def tlV (x : Gl) (wh : Nat) : Nat → Nat
  | 0 => gK x
  | 1 => gS x
  | 2 => gH x
  | 3 => gW x
  | 4 => gR x
  | 5 => wm x
  | _ => wh
theorem lt7 {k : Nat} (h : k < 7) : k = 0 ∨ k = 1 ∨ k = 2 ∨ k = 3 ∨ k = 4 ∨ k = 5 ∨ k = 6 := by omega
theorem tell_ok {a : Nat} {x : Gl} {w u : Nat} (ha : kd a = 4) (hx : GlAt M a x) (hk : GlOk x) (h5 : M.1 a 5 = nI u) (hw : w < 7) (h : Q (some (.int (nI (tlV x u w)))) M) : C_X4_tell G a (nI w) M Q := by
  refine v_X4_tell ha ?_
  obtain ⟨x0, x1, x2, x3, x4⟩ := id hx
  rw [x0, x1, x2, x3, x4, h5]
  rcases lt7 hw with rfl | rfl | rfl | rfl | rfl | rfl | rfl
  case inr.inr.inr.inr.inr.inl =>
    exact br_f (by decide) (br_f (by decide) (br_f (by decide) (br_f (by decide) (br_f (by decide) (br_t rfl (warmth_ok ha hx hk (RI.mk h)))))))
  all_goals repeat (first | exact h | refine br_t (by decide) ?_ | refine br_f (by decide) ?_)
theorem m_tell_ok {i : Nat} {x : Gl} {w u : Nat} (hi : i < 8) (hx : GlM M i x) (hk : GlOk x) (h5 : M.1 86 i = nI u) (hw : w < 7) (h : Q (some (.int (nI (tlV x u w)))) M) : C_X11_ofGlove G (nI i) (nI w) M Q := by
  refine v_X11_ofGlove ?_
  obtain ⟨x0, x1, x2, x3, x4⟩ := id hx
  rw [ncl (by omega), x0, x1, x2, x3, x4, h5]
  rcases lt7 hw with rfl | rfl | rfl | rfl | rfl | rfl | rfl
  case inr.inr.inr.inr.inr.inl =>
    exact br_f (by decide) (br_f (by decide) (br_f (by decide) (br_f (by decide) (br_f (by decide) (br_t rfl ⟨vin hi, m_warmth_ok hi hk.1 hk.2.2.2.1 hk.2.2.2.2 x3 x4 (RI.mk h)⟩)))))
  all_goals repeat (first | exact ⟨vin hi, h⟩ | refine br_t (by decide) ?_ | refine br_f (by decide) ?_)
theorem kd8 {i : Nat} (hk : DOk D) (h : i < dn D) : kd (55 + i) = 4 := kdGl (by have := hk.1; omega)
theorem RC.gl (hC : RC S M) {i : Nat} (h : i < dn S.2.2.1) : GlAt M (55 + i) (glD S.2.2.1 i) := (hC.2.2.1.2.2.1 i h).1
theorem RC.wh (hC : RC S M) {i : Nat} (h : i < dn S.2.2.1) : M.1 (55 + i) 5 = nI (whO (dL S.2.2.1) i) := (hC.2.2.1.2.2.1 i h).2
theorem RM.gl (hM : RM S M) {i : Nat} (h : i < dn S.2.2.1) : GlM M i (glD S.2.2.1 i) := (hM.2.2.1.2.2.1 i h).1
theorem RM.wh (hM : RM S M) {i : Nat} (h : i < dn S.2.2.1) : M.1 86 i = nI (whO (dL S.2.2.1) i) := (hM.2.2.1.2.2.1 i h).2
theorem RC.nz (hC : RC S M) : M.1 12 2 = nI (dn S.2.2.1) := hC.2.2.1.1
theorem RM.nz (hM : RM S M) : M.1 71 20 = nI (dn S.2.2.1) := hM.2.2.1.1
/-- promise 12 -/
theorem law_glove (hB : Bo M) (x y : Int32) : C_X10_glove G x y M (RI fun r M1 => C_X11_glove G x y M1 (RI fun r2 M2 => r = r2 ∧ Bo M2)) := by
  obtain ⟨S, hk, hC, hM⟩ := id hB
  have h8 := hk.2.2.1.1
  rcases ix3 x (n := dn S.2.2.1) (by omega) with hx | ⟨i, hi, rfl⟩
  · exact v_X10_glove (has_n hC.nz hx (RI.mk (br_t rfl (RI.mk (v_X11_glove (isG_n hM.nz h8 hx (RI.mk (br_t rfl (RI.mk ⟨rfl, hB⟩)))))))))
  rcases ix3 y (n := 7) (by decide) with hy | ⟨w, hw, rfl⟩
  · have fin : C_X11_glove G (nI i) y M (RI fun r2 M2 => (-1 : Int32) = r2 ∧ Bo M2) := v_X11_glove (isG_y hM.nz h8 hi (RI.mk (br_f (by decide) (m_in_n (hy.imp id fun q => (nlt_le (n := 6) (by decide)).mpr q) (RI.mk (br_t rfl (RI.mk ⟨rfl, hB⟩)))))))
    exact v_X10_glove (has_y hC.nz h8 hi (RI.mk (br_f (by decide) ⟨fun _ => RI.mk fin, fun c => br_f (Int32.not_lt.mpr (hy.resolve_left c)) (RI.mk fin)⟩)))
  · refine v_X10_glove (has_y hC.nz h8 hi (RI.mk (br_f (by decide) (br_f (nI_pos (by omega)) (br_t (show nI w < nI 7 from nI_lt hw (by decide)) ⟨vin (by omega), ?_⟩)))))
    rw [ncl (by omega)]
    refine tell_ok (kd8 hk.2.2.1 hi) (hC.gl hi) (glD_ok hk.2.2.1 hi) (hC.wh hi) hw (RI.mk (c_tells hk hC fun M1 hC1 e1 => RI.mk (RI.mk ?_)))
    have hM1 := hM.oth e1
    refine v_X11_glove (isG_y hM1.nz h8 hi (RI.mk (br_f (by decide) (m_in_y (nI_pos (by omega)) (show ¬ nI 6 < nI w from nI_nlt (by omega) (by omega)) (RI.mk (br_f (by decide) ?_))))))
    exact m_tell_ok (by omega) (hM1.gl hi) (glD_ok hk.2.2.1 hi) (hM1.wh hi) hw (RI.mk (m_tells hM1 fun M2 hM2 e2 => RI.mk (RI.mk ⟨rfl, Bo.mk (hk.sA _) (hC1.oth (hk.sA _) e2) hM2⟩)))
/-! marks -/
def sm (f : Nat → Int32) : Nat → Int32
  | 0 => 0
  | n + 1 => sm f n + f n
def mkF (D : Dr) (i w j : Nat) : Int32 := if j = i ∨ whO (dL D) j ≠ 0 then 0 else
  if w = 3 then (if gS (glD D j) = gS (glD D i) then 1 else 0)
  else if w = 2 then (if mp (glD D i) (glD D j) then 1 else 0)
  else oI (gw (glD D i) (glD D j)) - oI (gw (2, (glD D i).2) (glD D j))
theorem inside_ok (hz : M.1 12 2 = nI n) (hn : n ≤ 8) {i u : Nat} (hi : i < n) (h5 : M.1 (55 + i) 5 = nI u) (hu : u < 3) (h : Q (some (.int (bI (u == 0)))) M) : C_X3_isInside G (nI i) M Q := by
  refine v_X3_isInside (has_y hz hn hi (RI.mk (br_f (by decide) ⟨vin (by omega), ?_⟩)))
  rw [ncl (by omega), h5]
  rcases (show u = 0 ∨ u = 1 ∨ u = 2 by omega) with rfl | rfl | rfl
  · exact br_t rfl h
  · exact br_f (by decide) h
  · exact br_f (by decide) h
theorem inside_no (hz : M.1 12 2 = nI n) {x : Int32} (hx : x < 0 ∨ nI n ≤ x) (h : Q (some (.int 0)) M) : C_X3_isInside G x M Q :=
  v_X3_isInside (has_n hz hx (RI.mk (br_t rfl h)))
theorem bu0 {u : Nat} : bI (u == 0) = 0 ↔ u ≠ 0 := by rw [bI_0, beq_eq_false_iff_ne]
theorem mates_loop (hk : SOk S) (hC : RC S M) {i : Nat} (hi : i < dn S.2.2.1) (h : Q (some (.int (sm (mkF S.2.2.1 i 2) (dn S.2.2.1)))) M) : ∀ (k j : Nat), j + k = dn S.2.2.1 → P_X3_matesOf_4 G (nI i) (sm (mkF S.2.2.1 i 2) j) (nI j) M Q := by
  have h8 := hk.2.2.1.1
  intro k
  induction k with
  | zero =>
    intro j hj
    have : j = dn S.2.2.1 := by omega
    rw [this]
    refine v_X3_matesOf_4 ?_
    rw [hC.nz]
    exact br_f (nI_nlt (Nat.le_refl _) (by omega)) h
  | succ k ih =>
    intro j hj
    have hj2 : j < dn S.2.2.1 := by omega
    have ih1 := ih (j + 1) (by omega)
    rw [show sm (mkF S.2.2.1 i 2) (j + 1) = sm (mkF S.2.2.1 i 2) j + mkF S.2.2.1 i 2 j from rfl] at ih1
    refine v_X3_matesOf_4 ?_
    rw [hC.nz, nI_1, nI_eq (by omega) (by omega), ncl (by omega), ncl (by omega)]
    refine br_t (nI_lt hj2 (by omega)) ⟨fun c => ?_, fun c => ?_⟩
    · unfold mkF at ih1
      rw [if_pos (Or.inl c), Int32.add_zero] at ih1
      exact ih1
    · refine inside_ok hC.nz h8 hj2 (hC.wh hj2) (whO_lt _ _) (RI.mk ⟨fun d => ?_, fun d => ?_⟩)
      · unfold mkF at ih1
        rw [if_pos (Or.inr (bu0.mp d)), Int32.add_zero] at ih1
        exact ih1
      · have d0 : whO (dL S.2.2.1) j = 0 := by
          by_cases q : whO (dL S.2.2.1) j = 0
          · exact q
          · exact absurd (bu0.mpr q) d
        unfold mkF at ih1
        rw [if_neg (by omega), if_neg (by decide), if_pos rfl, mp_comm] at ih1
        refine ⟨vin (by omega), vin (by omega), makes_ok (kd8 hk.2.2.1 hj2) (kd8 hk.2.2.1 hi) (hC.gl hj2) (glD_ok hk.2.2.1 hj2) (hC.gl hi) (glD_ok hk.2.2.1 hi) (RI.mk ⟨fun f => ?_, fun f => ?_⟩)⟩
        · rw [bI_0.mp f] at ih1
          rw [if_neg (by decide), Int32.add_zero] at ih1
          exact ih1
        · rw [bI_n0.mp f, if_pos rfl] at ih1
          exact ih1
theorem same_loop (hk : SOk S) (hC : RC S M) {i : Nat} (hi : i < dn S.2.2.1) (h : Q (some (.int (sm (mkF S.2.2.1 i 3) (dn S.2.2.1)))) M) : ∀ (k j : Nat), j + k = dn S.2.2.1 → P_X3_sameSortAs_4 G (nI i) (sm (mkF S.2.2.1 i 3) j) (nI j) M Q := by
  have h8 := hk.2.2.1.1
  intro k
  induction k with
  | zero =>
    intro j hj
    have : j = dn S.2.2.1 := by omega
    rw [this]
    refine v_X3_sameSortAs_4 ?_
    rw [hC.nz]
    exact br_f (nI_nlt (Nat.le_refl _) (by omega)) h
  | succ k ih =>
    intro j hj
    have hj2 : j < dn S.2.2.1 := by omega
    have ih1 := ih (j + 1) (by omega)
    rw [show sm (mkF S.2.2.1 i 3) (j + 1) = sm (mkF S.2.2.1 i 3) j + mkF S.2.2.1 i 3 j from rfl] at ih1
    refine v_X3_sameSortAs_4 ?_
    rw [hC.nz, nI_1, nI_eq (by omega) (by omega), ncl (by omega), ncl (by omega)]
    refine br_t (nI_lt hj2 (by omega)) ⟨fun c => ?_, fun c => ?_⟩
    · unfold mkF at ih1
      rw [if_pos (Or.inl c), Int32.add_zero] at ih1
      exact ih1
    · refine inside_ok hC.nz h8 hj2 (hC.wh hj2) (whO_lt _ _) (RI.mk ⟨fun d => ?_, fun d => ?_⟩)
      · unfold mkF at ih1
        rw [if_pos (Or.inr (bu0.mp d)), Int32.add_zero] at ih1
        exact ih1
      · have d0 : whO (dL S.2.2.1) j = 0 := by
          by_cases q : whO (dL S.2.2.1) j = 0
          · exact q
          · exact absurd (bu0.mpr q) d
        unfold mkF at ih1
        rw [if_neg (by omega), if_pos rfl] at ih1
        have s1 := (glD_ok hk.2.2.1 hi).2.1
        have s2 := (glD_ok hk.2.2.1 hj2).2.1
        rw [(hC.gl hi).2.1, (hC.gl hj2).2.1, nI_eq (by omega) (by omega)]
        refine ⟨vin (by omega), vin (by omega), fun f => ?_, fun f => ?_⟩
        · rw [if_pos f] at ih1; exact ih1
        · rw [if_neg f, Int32.add_zero] at ih1; exact ih1
theorem like_ok {a b u : Nat} {x : Gl} (ha : kd a = 4) (hb : kd b = 4) (hab : a ≠ b) (hx : GlAt M b x) (h5 : M.1 b 5 = nI u) (h : ∀ M', Eqv (fun o _ => o = a) M M' → GlAt M' a x → M'.1 a 5 = nI u → Q none M') : C_X4_becomeLike G a b M Q := by
  obtain ⟨x0, x1, x2, x3, x4⟩ := hx
  refine v_X4_becomeLike ha hb ?_
  rintro M1 e1 M2 e2 M3 e3 M4 e4 M5 e5 M6 e6
  have v1 : Eqv (fun o _ => o = a) M M1 := by rw [e1]; exact Eqv.rf.upI rfl
  have v2 : Eqv (fun o _ => o = a) M M2 := by rw [e2]; exact v1.upI rfl
  have v3 : Eqv (fun o _ => o = a) M M3 := by rw [e3]; exact v2.upI rfl
  have v4 : Eqv (fun o _ => o = a) M M4 := by rw [e4]; exact v3.upI rfl
  have v5 : Eqv (fun o _ => o = a) M M5 := by rw [e5]; exact v4.upI rfl
  have v6 : Eqv (fun o _ => o = a) M M6 := by rw [e6]; exact v5.upI rfl
  rw [x0] at e1
  rw [v1.i (fun q => hab q.symm), x1] at e2
  rw [v2.i (fun q => hab q.symm), x2] at e3
  rw [v3.i (fun q => hab q.symm), x3] at e4
  rw [v4.i (fun q => hab q.symm), x4] at e5
  rw [v5.i (fun q => hab q.symm), h5] at e6
  refine h M6 v6 ⟨?_, ?_, ?_, ?_, ?_⟩ ?_ <;> rw [e6, e5, e4, e3, e2, e1]
  · rw [upI_n _ _ (by omega), upI_n _ _ (by omega), upI_n _ _ (by omega), upI_n _ _ (by omega), upI_n _ _ (by omega), upI_s]
  · rw [upI_n _ _ (by omega), upI_n _ _ (by omega), upI_n _ _ (by omega), upI_n _ _ (by omega), upI_s]
  · rw [upI_n _ _ (by omega), upI_n _ _ (by omega), upI_n _ _ (by omega), upI_s]
  · rw [upI_n _ _ (by omega), upI_n _ _ (by omega), upI_s]
  · rw [upI_n _ _ (by omega), upI_s]
  · rw [upI_s]
theorem gain_loop (hk : SOk S) {i : Nat} (hi : i < dn S.2.2.1) (hC : RC S M) (h37 : GlAt M 37 (2, (glD S.2.2.1 i).2)) (h : Q (some (.int (sm (mkF S.2.2.1 i 5) (dn S.2.2.1)))) M) : ∀ (k j : Nat), j + k = dn S.2.2.1 → P_X5_gainOfStretch_26 G (nI i) (sm (mkF S.2.2.1 i 5) j) (nI j) M Q := by
  have h8 := hk.2.2.1.1
  intro k
  induction k with
  | zero =>
    intro j hj
    have : j = dn S.2.2.1 := by omega
    rw [this]
    refine v_X5_gainOfStretch_26 ?_
    rw [hC.nz]
    exact br_f (nI_nlt (Nat.le_refl _) (by omega)) h
  | succ k ih =>
    intro j hj
    have hj2 : j < dn S.2.2.1 := by omega
    have ih1 := ih (j + 1) (by omega)
    rw [show sm (mkF S.2.2.1 i 5) (j + 1) = sm (mkF S.2.2.1 i 5) j + mkF S.2.2.1 i 5 j from rfl] at ih1
    refine v_X5_gainOfStretch_26 ?_
    rw [hC.nz, nI_1, nI_eq (by omega) (by omega), ncl (by omega), ncl (by omega)]
    refine br_t (nI_lt hj2 (by omega)) ⟨fun c => ?_, fun c => ?_⟩
    · unfold mkF at ih1
      rw [if_pos (Or.inl c), Int32.add_zero] at ih1
      exact ih1
    · refine inside_ok hC.nz h8 hj2 (hC.wh hj2) (whO_lt _ _) (RI.mk ⟨fun d => ?_, fun d => ?_⟩)
      · unfold mkF at ih1
        rw [if_pos (Or.inr (bu0.mp d)), Int32.add_zero] at ih1
        exact ih1
      · have d0 : whO (dL S.2.2.1) j = 0 := by
          by_cases q : whO (dL S.2.2.1) j = 0
          · exact q
          · exact absurd (bu0.mpr q) d
        unfold mkF at ih1
        rw [if_neg (by omega), if_neg (by decide), if_neg (by decide)] at ih1
        have ok1 := glD_ok hk.2.2.1 hi
        have ok2 : GlOk (2, (glD S.2.2.1 i).2) := ⟨by show 2 < 6; decide, ok1.2⟩
        refine ⟨vin (by omega), vin (by omega), goodWith_ok (kd8 hk.2.2.1 hi) (kd8 hk.2.2.1 hj2) (hC.gl hi) ok1 (hC.gl hj2) (glD_ok hk.2.2.1 hj2) (RI.mk ⟨vin (by omega), ?_⟩)⟩
        exact goodWith_ok rfl (kd8 hk.2.2.1 hj2) h37 ok2 (hC.gl hj2) (glD_ok hk.2.2.1 hj2) (RI.mk ih1)
theorem oI_n9' {o : Option Nat} (h : ∀ v, o = some v → v < 25) : oI o = -9 ↔ o = none := oI_n9 fun v hv => by have := h v hv; omega
theorem mmark_loop (hk : SOk S) {i w : Nat} (hw : w = 2 ∨ w = 3 ∨ w = 5) (hw5 : w = 5 → gK (glD S.2.2.1 i) = 5) (hi : i < dn S.2.2.1) (hM : RM S M) (h : Q (some (.int (sm (mkF S.2.2.1 i w) (dn S.2.2.1)))) M) : ∀ (k j : Nat), j + k = dn S.2.2.1 → P_X11_mark_115 G (nI i) (nI w) (sm (mkF S.2.2.1 i w) j) (nI j) M Q := by
  have h8 := hk.2.2.1.1
  intro k
  induction k with
  | zero =>
    intro j hj
    have : j = dn S.2.2.1 := by omega
    rw [this]
    refine v_X11_mark_115 ?_
    rw [hM.nz]
    exact br_f (nI_nlt (Nat.le_refl _) (by omega)) h
  | succ k ih =>
    intro j hj
    have hj2 : j < dn S.2.2.1 := by omega
    have ih1 := ih (j + 1) (by omega)
    rw [show sm (mkF S.2.2.1 i w) (j + 1) = sm (mkF S.2.2.1 i w) j + mkF S.2.2.1 i w j from rfl] at ih1
    refine v_X11_mark_115 ?_
    rw [hM.nz, nI_1, nI_eq (by omega) (by omega), ncl (by omega), ncl (by omega), hM.wh hj2, show (0 : Int32) = nI 0 from rfl, nI_eq (by have := whO_lt (dL S.2.2.1) j; omega) (by omega)]
    refine br_t (nI_lt hj2 (by omega)) ⟨fun c => ?_, fun c => ⟨vin (by omega), fun d => ?_, fun d => ?_⟩⟩
    · unfold mkF at ih1
      rw [if_pos (Or.inl c), Int32.add_zero] at ih1
      exact ih1
    · have ok1 := glD_ok hk.2.2.1 hi
      have ok2 := glD_ok hk.2.2.1 hj2
      refine m_pairOf_ok (by omega) (by omega) ok1 ok2 (hM.gl hi) (hM.gl hj2) (RI.mk ?_)
      rw [oI_n9' (fun v hv => gw_lt ok1 ok2 hv), (hM.gl hj2).2.1, (hM.gl hi).2.1, nI_eq (by have := ok2.2.1; omega) (by have := ok1.2.1; omega)]
      unfold mkF at ih1
      rw [if_neg (by omega)] at ih1
      have hgn : gw (glD S.2.2.1 i) (glD S.2.2.1 j) = none ↔ mp (glD S.2.2.1 i) (glD S.2.2.1 j) = false := by
        unfold gw; cases mp (glD S.2.2.1 i) (glD S.2.2.1 j) <;> simp
      rcases hw with rfl | rfl | rfl
      · rw [if_neg (by decide), if_pos rfl] at ih1
        refine br_f (by decide) ⟨fun f => ?_, fun f => br_t rfl ?_⟩
        · rw [hgn.mp f, if_neg (by decide)] at ih1; exact ih1
        · have : mp (glD S.2.2.1 i) (glD S.2.2.1 j) = true := by
            cases q : mp (glD S.2.2.1 i) (glD S.2.2.1 j)
            · exact absurd (hgn.mpr q) f
            · rfl
          rw [this, if_pos rfl] at ih1; exact ih1
      · rw [if_pos rfl] at ih1
        refine br_t rfl ⟨vin (by omega), vin (by omega), fun f => ?_, fun f => ?_⟩
        · rw [if_pos f] at ih1; exact ih1
        · rw [if_neg f] at ih1; exact ih1
      · rw [if_neg (by decide), if_neg (by decide)] at ih1
        have h5 := hw5 rfl
        have hmp : mp (2, (glD S.2.2.1 i).2) (glD S.2.2.1 j) = mp (glD S.2.2.1 i) (glD S.2.2.1 j) := by
          have e1 : ∀ c, goN (2, (glD S.2.2.1 i).2) c = true := fun c => by unfold goN; rw [show isN (gK (2, (glD S.2.2.1 i).2)) 2 = true from rfl, Bool.or_true]
          have e2 : ∀ c, goN (glD S.2.2.1 i) c = true := fun c => by unfold goN; rw [h5, show isN 5 2 = true from rfl, Bool.or_true]
          unfold mp
          rw [e1, e1, e2, e2]
        refine br_f (by decide) ⟨fun f => ?_, fun f => br_f (by decide) ⟨vin (by omega), vin (by omega), ?_⟩⟩
        · have g0 : gw (2, (glD S.2.2.1 i).2) (glD S.2.2.1 j) = none := by
            unfold gw; rw [hmp, hgn.mp f]; rfl
          rw [f, g0, show oI none - oI none = 0 from rfl] at ih1
          exact ih1
        · rw [(hM.gl hi).2.2.1]
          exact m_pairAs_ok (k := 2) (x := glD S.2.2.1 i) (by omega) (by omega) ok1 ok2 (by decide) ok1.2.1 ok1.2.2.1 (hM.gl hi).2.2.2.1 (hM.gl hi).2.2.2.2 (hM.gl hj2) (RI.mk ih1)
    · unfold mkF at ih1
      rw [if_pos (Or.inr d), Int32.add_zero] at ih1
      exact ih1
theorem old_tab : ∀ r, r < 64 → (if (0 : Int32) < 6 - nI r then 6 - nI r else 0) = nI (6 - r) := by decide +kernel
theorem isN5 {k : Nat} (h : isN k 5 = true) : k = 5 := by
  unfold isN at h
  simp only [show ((5 : Nat) == 0) = false from rfl, show ((5 : Nat) == 1) = false from rfl, show ((5 : Nat) == 2) = false from rfl, Bool.false_and, Bool.or_false] at h
  exact (beq_iff_eq.mp h).symm
/-- promise 13 -/
theorem law_mark (hB : Bo M) (x y : Int32) : C_X10_mark G x y M (RI fun r M1 => C_X11_mark G x y M1 (RI fun r2 M2 => r = r2 ∧ Bo M2)) := by
  obtain ⟨S, hk, hC, hM⟩ := id hB
  have h8 := hk.2.2.1.1
  rcases ix3 x (n := dn S.2.2.1) (by omega) with hx | ⟨i, hi, rfl⟩
  · exact v_X10_mark (has_n hC.nz hx (RI.mk (br_t rfl (RI.mk (v_X11_mark (isG_n hM.nz h8 hx (RI.mk (br_t rfl (RI.mk ⟨rfl, hB⟩)))))))))
  have fin : ∀ y : Int32, (y < 1 ∨ 5 < y) → C_X11_mark G (nI i) y M (RI fun r2 M2 => (-1 : Int32) = r2 ∧ Bo M2) := fun y hy => v_X11_mark (isG_y hM.nz h8 hi (RI.mk (br_f (by decide) (m_in_n hy (RI.mk (br_t rfl (RI.mk ⟨rfl, hB⟩)))))))
  rcases ix3 y (n := 6) (by decide) with hy | ⟨w, hw, rfl⟩
  · have f2 := fin y (hy.imp (fun q => ?_) fun q => (nlt_le (n := 5) (by decide)).mpr q)
    · refine v_X10_mark (has_y hC.nz h8 hi (RI.mk (br_f (by decide) ⟨fun c => ?_, fun _ => RI.mk f2⟩)))
      have : ¬ y < 6 := fun q => by
        rcases hy with h | h
        · exact absurd (Int32.lt_trans c h) (Int32.lt_irrefl)
        · exact Int32.not_le.mpr q h
      exact br_f this (RI.mk f2)
    · rw [Int32.lt_iff_toInt_lt, show (0 : Int32).toInt = 0 by decide] at q
      rw [Int32.lt_iff_toInt_lt, show (1 : Int32).toInt = 1 by decide]
      omega
  rcases Nat.eq_zero_or_pos w with e0 | e0
  · subst e0
    exact v_X10_mark (has_y hC.nz h8 hi (RI.mk (br_f (by decide) (br_f (by decide) (RI.mk (fin _ (Or.inl (by decide))))))))
  have ok1 := glD_ok hk.2.2.1 hi
  refine v_X10_mark (has_y hC.nz h8 hi (RI.mk (br_f (by decide) (br_t (show nI 0 < nI w from nI_lt e0 (by omega)) (br_t (show nI w < nI 6 from nI_lt hw (by omega)) ⟨vin (by omega), ?_⟩)))))
  rw [ncl (by omega)]
  have mst : ∀ {Q2 : Option Value → Mem → Prop} {M1 : Mem}, RM S M1 → (C_X11_isOf G (nI (gK (glD S.2.2.1 i))) (nI w) M1 (RI (fun r9 M8 => ((r9 = 0 → (WpM G 1 Y_X11_refuse [.ref (ad G 71), .int 3] M8 (RI (fun r20 M19 => Q2 (some (.int r20)) M19)))) ∧ (¬ r9 = 0 → ((nI w = 1 → (vp_in (nI i) 8 ∧ (WpM G 1 Y_X11_warmthAs [.ref (ad G 71), .int (M8.1 82 i), .int (nI i)] M8 (RI (fun r13 M12 => (WpM G 1 Y_X11_warmthAs [.ref (ad G 71), .int 0, .int (nI i)] M12 (RI (fun r15 M14 => Q2 (some (.int (r13 - r15))) M14)))))))) ∧ (¬ nI w = 1 → ((nI w = 4 → (vp_in (nI i) 8 ∧ (((M8.1 87 i) < 6 → (vp_in (nI i) 8 ∧ Q2 (some (.int (6 - (M8.1 87 i)))) M8)) ∧ (¬ (M8.1 87 i) < 6 → Q2 (some (.int 0)) M8)))) ∧ (¬ nI w = 4 → P_X11_mark_115 G (nI i) (nI w) 0 0 M8 Q2))))))))) → C_X11_mark G (nI i) (nI w) M1 Q2 := by
    intro Q2 M1 hM1 hh
    refine v_X11_mark (isG_y hM1.nz h8 hi (RI.mk (br_f (by decide) (m_in_y (show ¬ nI w < nI 1 from nI_nlt e0 (by omega)) (show ¬ nI 5 < nI w from nI_nlt (by omega) (by omega)) (RI.mk (br_f (by decide) ⟨vin (by omega), ?_⟩))))))
    rw [ncl (by omega), (hM1.gl hi).1]
    exact hh
  refine isOf_ok (kd8 hk.2.2.1 hi) (hC.gl hi) ok1 hw (RI.mk ⟨fun c => ?_, fun c => ?_⟩)
  · refine c_finds (f := 3) hk hC (by decide) (by decide) fun M1 hC1 e1 => RI.mk (RI.mk (mst (hM.oth e1) (m_isOf_ok ok1.1 hw e0 (RI.mk ?_))))
    exact br_t c (m_refuse (f := 3) (hM.oth e1) (by decide) (by decide) fun M2 hM2 e2 => RI.mk (RI.mk ⟨rfl, Bo.mk (hk.sF 3) (hC1.oth (hk.sF 3) e2) hM2⟩))
  · have c' := bI_n0.mp c
    rcases (show w = 1 ∨ w = 2 ∨ w = 3 ∨ w = 4 ∨ w = 5 by omega) with rfl | rfl | rfl | rfl | rfl
    · refine br_t rfl ⟨vin (by omega), warmth_ok (kd8 hk.2.2.1 hi) (hC.gl hi) ok1 (RI.mk ⟨vin (by omega), bare_ok (kd8 hk.2.2.1 hi) (hC.gl hi) ok1 (RI.mk (RI.mk (mst hM (m_isOf_ok ok1.1 hw e0 (RI.mk (br_f c (br_t rfl ⟨vin (by omega), ?_⟩)))))))⟩)⟩
      rw [(hM.gl hi).1]
      refine m_warmth_ok (by omega) ok1.1 ok1.2.2.2.1 ok1.2.2.2.2 (hM.gl hi).2.2.2.1 (hM.gl hi).2.2.2.2 (RI.mk ?_)
      exact m_warmth_ok (k := 0) (by omega) (by omega) ok1.2.2.2.1 ok1.2.2.2.2 (hM.gl hi).2.2.2.1 (hM.gl hi).2.2.2.2 (RI.mk (RI.mk ⟨rfl, hB⟩))
    · refine br_f (by decide) (br_t rfl (v_X3_matesOf (mates_loop hk hC hi ?_ (dn S.2.2.1) 0 (by omega))))
      refine RI.mk (RI.mk (mst hM (m_isOf_ok ok1.1 hw e0 (RI.mk (br_f c (br_f (by decide) (br_f (by decide) ?_)))))))
      exact mmark_loop hk (w := 2) (Or.inl rfl) (fun q => absurd q (by decide)) hi hM (RI.mk ⟨rfl, hB⟩) (dn S.2.2.1) 0 (by omega)
    · refine br_f (by decide) (br_f (by decide) (br_t rfl (v_X3_sameSortAs (same_loop hk hC hi ?_ (dn S.2.2.1) 0 (by omega)))))
      refine RI.mk (RI.mk (mst hM (m_isOf_ok ok1.1 hw e0 (RI.mk (br_f c (br_f (by decide) (br_f (by decide) ?_)))))))
      exact mmark_loop hk (w := 3) (Or.inr (Or.inl rfl)) (fun q => absurd q (by decide)) hi hM (RI.mk ⟨rfl, hB⟩) (dn S.2.2.1) 0 (by omega)
    · refine br_f (by decide) (br_f (by decide) (br_f (by decide) (br_t rfl ⟨vin (by omega), ?_⟩)))
      have hr := ok1.2.2.2.2
      rw [(hC.gl hi).2.2.2.2, old_tab _ hr]
      refine RI.mk (mst hM (m_isOf_ok ok1.1 hw e0 (RI.mk (br_f c (br_f (by decide) (br_t rfl ⟨vin (by omega), ?_⟩))))))
      rw [(hM.gl hi).2.2.2.2]
      refine ⟨fun f => ⟨vin (by omega), RI.mk ⟨?_, hB⟩⟩, fun f => RI.mk ⟨?_, hB⟩⟩
      · have f' : gR (glD S.2.2.1 i) < 6 := (nI_ltI (by omega) (by decide)).mp f
        rw [show (6 : Int32) = nI 6 from rfl, pk_sub (by omega)]
      · have f' : ¬ gR (glD S.2.2.1 i) < 6 := fun q => f (nI_lt q (by decide))
        rw [show 6 - gR (glD S.2.2.1 i) = 0 by omega]; rfl
    · refine br_f (by decide) (br_f (by decide) (br_f (by decide) (br_f (by decide) (v_X5_gainOfStretch ⟨vin (by omega), ?_⟩))))
      rw [ncl (by omega)]
      refine like_ok rfl (kd8 hk.2.2.1 hi) (by omega) (hC.gl hi) (hC.wh hi) fun M1 e1 g1 _ => RV.mk ?_
      rintro M2 e2
      have v2 : Eqv (fun a _ => a = 37) M M2 := by rw [e2]; exact e1.upI rfl
      have hC2 : RC S M2 := hC.scr hk (v2.mono (by unfold scrC; omega))
      have g2 : GlAt M2 37 (2, (glD S.2.2.1 i).2) := by
        obtain ⟨a, b, c, d, f⟩ := g1
        rw [e2]
        exact ⟨upI_s _ _ _ _, by rw [upI_n _ _ (by omega)]; exact b, by rw [upI_n _ _ (by omega)]; exact c, by rw [upI_n _ _ (by omega)]; exact d, by rw [upI_n _ _ (by omega)]; exact f⟩
      have hM2 : RM S M2 := hM.oth (v2.mono (by omega))
      refine gain_loop hk hi hC2 g2 ?_ (dn S.2.2.1) 0 (by omega)
      refine RI.mk (RI.mk (mst hM2 (m_isOf_ok ok1.1 hw e0 (RI.mk (br_f c (br_f (by decide) (br_f (by decide) ?_)))))))
      exact mmark_loop hk (w := 5) (Or.inr (Or.inr rfl)) (fun _ => isN5 c') hi hM2 (RI.mk ⟨rfl, Bo.mk hk hC2 hM2⟩) (dn S.2.2.1) 0 (by omega)
theorem two_y (hz : M.1 71 20 = nI n) (hn : n ≤ 8) {i j : Nat} (hi : i < n) (hj : j < n) (hij : i ≠ j) (h : Q (some (.int 1)) M) : C_X11_areTwo G (nI i) (nI j) M Q :=
  v_X11_areTwo (isG_y hz hn hi (RI.mk (br_f (by decide) (isG_y hz hn hj (RI.mk (br_f (by decide) (br_f (fun q => hij ((nI_eq (by omega) (by omega)).mp q)) h)))))))
theorem two_n1 (hz : M.1 71 20 = nI n) (hn : n ≤ 8) {x y : Int32} (hx : x < 0 ∨ nI n ≤ x) (h : Q (some (.int 0)) M) : C_X11_areTwo G x y M Q :=
  v_X11_areTwo (isG_n hz hn hx (RI.mk (br_t rfl h)))
theorem two_n2 (hz : M.1 71 20 = nI n) (hn : n ≤ 8) {i : Nat} (hi : i < n) {y : Int32} (hx : y < 0 ∨ nI n ≤ y) (h : Q (some (.int 0)) M) : C_X11_areTwo G (nI i) y M Q :=
  v_X11_areTwo (isG_y hz hn hi (RI.mk (br_f (by decide) (isG_n hz hn hx (RI.mk (br_t rfl h))))))
theorem two_n3 (hz : M.1 71 20 = nI n) (hn : n ≤ 8) {i : Nat} (hi : i < n) (h : Q (some (.int 0)) M) : C_X11_areTwo G (nI i) (nI i) M Q :=
  v_X11_areTwo (isG_y hz hn hi (RI.mk (br_f (by decide) (isG_y hz hn hi (RI.mk (br_f (by decide) (br_t rfl h)))))))
/-- promise 14 -/
theorem law_pair (hB : Bo M) (x y : Int32) : C_X10_pair G x y M (RI fun r M1 => C_X11_pair G x y M1 (RI fun r2 M2 => r = r2 ∧ Bo M2)) := by
  obtain ⟨S, hk, hC, hM⟩ := id hB
  have h8 := hk.2.2.1.1
  rcases ix3 x (n := dn S.2.2.1) (by omega) with hx | ⟨i, hi, rfl⟩
  · exact v_X10_pair (has_n hC.nz hx (RI.mk (br_t rfl (RI.mk (v_X11_pair (two_n1 hM.nz h8 hx (RI.mk (br_t rfl (RI.mk ⟨rfl, hB⟩)))))))))
  rcases ix3 y (n := dn S.2.2.1) (by omega) with hy | ⟨j, hj, rfl⟩
  · exact v_X10_pair (has_y hC.nz h8 hi (RI.mk (br_f (by decide) (has_n hC.nz hy (RI.mk (br_t rfl (RI.mk (v_X11_pair (two_n2 hM.nz h8 hi hy (RI.mk (br_t rfl (RI.mk ⟨rfl, hB⟩))))))))))))
  by_cases hij : i = j
  · subst hij
    exact v_X10_pair (has_y hC.nz h8 hi (RI.mk (br_f (by decide) (has_y hC.nz h8 hj (RI.mk (br_f (by decide) (br_t rfl (RI.mk (v_X11_pair (two_n3 hM.nz h8 hi (RI.mk (br_t rfl (RI.mk ⟨rfl, hB⟩)))))))))))))
  · refine v_X10_pair (has_y hC.nz h8 hi (RI.mk (br_f (by decide) (has_y hC.nz h8 hj (RI.mk (br_f (by decide) (br_f (fun q => hij ((nI_eq (by omega) (by omega)).mp q)) ⟨vin (by omega), vin (by omega), ?_⟩)))))))
    rw [ncl (by omega), ncl (by omega)]
    have ok1 := glD_ok hk.2.2.1 hi
    have ok2 := glD_ok hk.2.2.1 hj
    refine goodWith_ok (kd8 hk.2.2.1 hi) (kd8 hk.2.2.1 hj) (hC.gl hi) ok1 (hC.gl hj) ok2 (RI.mk (RI.mk (v_X11_pair (two_y hM.nz h8 hi hj hij (RI.mk (br_f (by decide) ?_))))))
    exact m_pairOf_ok (by omega) (by omega) ok1 ok2 (hM.gl hi) (hM.gl hj) (RI.mk (RI.mk ⟨rfl, hB⟩))
end GLW
