/-! promises 12 to 21 -/
section GLW
variable {G : Glob} {M : Mem} {Q : Option Value → Mem → Prop} {n : Nat} {S : St} {D : Dr}
def tlV (x : Gl) (wh : Nat) : Nat → Nat
  | 0 => gK x
  | 1 => gS x
  | 2 => gH x
  | 3 => gW x
  | 4 => gR x
  | 5 => wm x
  | _ => wh
theorem lt7 {k : Nat} (h : k < 7) : k = 0 ∨ k = 1 ∨ k = 2 ∨ k = 3 ∨ k = 4 ∨ k = 5 ∨ k = 6 := by omega
theorem tell_ok {a : Nat} {x : Gl} {w u : Nat} (ha : kd a = 4) (hx : GlAt M a x) (hk : GlOk x) (h5 : M.1 a 5 = nI u) (hw : w < 7) (h : Q (some (.int (nI (tlV x u w)))) M) : C_X4_tell G a (nI w) M Q := by
  refine v_X4_tell ha ?_
  obtain ⟨x0, x1, x2, x3, x4⟩ := id hx
  rw [x0, x1, x2, x3, x4, h5]
  rcases lt7 hw with rfl | rfl | rfl | rfl | rfl | rfl | rfl
  case inr.inr.inr.inr.inr.inl =>
    exact br_f (by decide) (br_f (by decide) (br_f (by decide) (br_f (by decide) (br_f (by decide) (br_t rfl (warmth_ok ha hx hk (RI.mk h)))))))
  all_goals repeat (first | exact h | refine br_t (by decide) ?_ | refine br_f (by decide) ?_)
theorem kd8 {i : Nat} (hk : DOk D) (h : i < dn D) : kd (55 + i) = 4 := kdGl (by have := hk.1; omega)
theorem RC.gl (hC : RC S M) {i : Nat} (h : i < dn S.2.2.1) : GlAt M (55 + i) (glD S.2.2.1 i) := (hC.2.2.1.2.2.1 i h).1
theorem RC.wh (hC : RC S M) {i : Nat} (h : i < dn S.2.2.1) : M.1 (55 + i) 5 = nI (whO (dL S.2.2.1) i) := (hC.2.2.1.2.2.1 i h).2
theorem RM.gl (hM : RM S M) {i : Nat} (h : i < dn S.2.2.1) : GlM M i (glD S.2.2.1 i) := (hM.2.2.1.2.2.1 i h).1
theorem RM.wh (hM : RM S M) {i : Nat} (h : i < dn S.2.2.1) : M.1 86 i = nI (whO (dL S.2.2.1) i) := (hM.2.2.1.2.2.1 i h).2
theorem RC.nz (hC : RC S M) : M.1 12 2 = nI (dn S.2.2.1) := hC.2.2.1.1
theorem RM.nz (hM : RM S M) : M.1 71 20 = nI (dn S.2.2.1) := hM.2.2.1.1
/-! marks -/
def sm (f : Nat → Int32) : Nat → Int32
  | 0 => 0
  | n + 1 => sm f n + f n
def mkF (D : Dr) (i w j : Nat) : Int32 := if j = i ∨ whO (dL D) j ≠ 0 then 0 else
  if w = 3 then (if gS (glD D j) = gS (glD D i) then 1 else 0)
  else if w = 2 then (if mp (glD D i) (glD D j) then 1 else 0)
  else oI (gw (glD D i) (glD D j)) - oI (gw (2, (glD D i).2) (glD D j))
theorem inside_ok (hz : M.1 12 2 = nI n) (hn : n ≤ 8) {i u : Nat} (hi : i < n) (h5 : M.1 (55 + i) 5 = nI u) (hu : u < 3) (h : Q (some (.int (bI (u == 0)))) M) : C_X3_isInside G (nI i) M Q := by
  refine v_X3_isInside (has_y hz hn hi (RI.mk (br_f (by decide) ⟨vin (by omega), ?_⟩)))
  rw [ncl (by omega), h5]
  rcases (show u = 0 ∨ u = 1 ∨ u = 2 by omega) with rfl | rfl | rfl
  · exact br_t rfl h
  · exact br_f (by decide) h
  · exact br_f (by decide) h
theorem inside_no (hz : M.1 12 2 = nI n) {x : Int32} (hx : x < 0 ∨ nI n ≤ x) (h : Q (some (.int 0)) M) : C_X3_isInside G x M Q :=
  v_X3_isInside (has_n hz hx (RI.mk (br_t rfl h)))
theorem bu0 {u : Nat} : bI (u == 0) = 0 ↔ u ≠ 0 := by rw [bI_0, beq_eq_false_iff_ne]
theorem mates_loop (hk : SOk S) (hC : RC S M) {i : Nat} (hi : i < dn S.2.2.1) (h : Q (some (.int (sm (mkF S.2.2.1 i 2) (dn S.2.2.1)))) M) : ∀ (k j : Nat), j + k = dn S.2.2.1 → P_X3_matesOf_4 G (nI i) (sm (mkF S.2.2.1 i 2) j) (nI j) M Q := by
  have h8 := hk.2.2.1.1
  intro k
  induction k with
  | zero =>
    intro j hj
    have : j = dn S.2.2.1 := by omega
    rw [this]
    refine v_X3_matesOf_4 ?_
    rw [hC.nz]
    exact br_f (nI_nlt (Nat.le_refl _) (by omega)) h
  | succ k ih =>
    intro j hj
    have hj2 : j < dn S.2.2.1 := by omega
    have ih1 := ih (j + 1) (by omega)
    rw [show sm (mkF S.2.2.1 i 2) (j + 1) = sm (mkF S.2.2.1 i 2) j + mkF S.2.2.1 i 2 j from rfl] at ih1
    refine v_X3_matesOf_4 ?_
    rw [hC.nz, nI_1, nI_eq (by omega) (by omega), ncl (by omega), ncl (by omega)]
    refine br_t (nI_lt hj2 (by omega)) ⟨fun c => ?_, fun c => ?_⟩
    · unfold mkF at ih1
      rw [if_pos (Or.inl c), Int32.add_zero] at ih1
      exact ih1
    · refine inside_ok hC.nz h8 hj2 (hC.wh hj2) (whO_lt _ _) (RI.mk ⟨fun d => ?_, fun d => ?_⟩)
      · unfold mkF at ih1
        rw [if_pos (Or.inr (bu0.mp d)), Int32.add_zero] at ih1
        exact ih1
      · have d0 : whO (dL S.2.2.1) j = 0 := by
          by_cases q : whO (dL S.2.2.1) j = 0
          · exact q
          · exact absurd (bu0.mpr q) d
        unfold mkF at ih1
        rw [if_neg (by omega), if_neg (by decide), if_pos rfl, mp_comm] at ih1
        refine ⟨vin (by omega), vin (by omega), makes_ok (kd8 hk.2.2.1 hj2) (kd8 hk.2.2.1 hi) (hC.gl hj2) (glD_ok hk.2.2.1 hj2) (hC.gl hi) (glD_ok hk.2.2.1 hi) (RI.mk ⟨fun f => ?_, fun f => ?_⟩)⟩
        · rw [bI_0.mp f] at ih1
          rw [if_neg (by decide), Int32.add_zero] at ih1
          exact ih1
        · rw [bI_n0.mp f, if_pos rfl] at ih1
          exact ih1
theorem same_loop (hk : SOk S) (hC : RC S M) {i : Nat} (hi : i < dn S.2.2.1) (h : Q (some (.int (sm (mkF S.2.2.1 i 3) (dn S.2.2.1)))) M) : ∀ (k j : Nat), j + k = dn S.2.2.1 → P_X3_sameSortAs_4 G (nI i) (sm (mkF S.2.2.1 i 3) j) (nI j) M Q := by
  have h8 := hk.2.2.1.1
  intro k
  induction k with
  | zero =>
    intro j hj
    have : j = dn S.2.2.1 := by omega
    rw [this]
    refine v_X3_sameSortAs_4 ?_
    rw [hC.nz]
    exact br_f (nI_nlt (Nat.le_refl _) (by omega)) h
  | succ k ih =>
    intro j hj
    have hj2 : j < dn S.2.2.1 := by omega
    have ih1 := ih (j + 1) (by omega)
    rw [show sm (mkF S.2.2.1 i 3) (j + 1) = sm (mkF S.2.2.1 i 3) j + mkF S.2.2.1 i 3 j from rfl] at ih1
    refine v_X3_sameSortAs_4 ?_
    rw [hC.nz, nI_1, nI_eq (by omega) (by omega), ncl (by omega), ncl (by omega)]
    refine br_t (nI_lt hj2 (by omega)) ⟨fun c => ?_, fun c => ?_⟩
    · unfold mkF at ih1
      rw [if_pos (Or.inl c), Int32.add_zero] at ih1
      exact ih1
    · refine inside_ok hC.nz h8 hj2 (hC.wh hj2) (whO_lt _ _) (RI.mk ⟨fun d => ?_, fun d => ?_⟩)
      · unfold mkF at ih1
        rw [if_pos (Or.inr (bu0.mp d)), Int32.add_zero] at ih1
        exact ih1
      · have d0 : whO (dL S.2.2.1) j = 0 := by
          by_cases q : whO (dL S.2.2.1) j = 0
          · exact q
          · exact absurd (bu0.mpr q) d
        unfold mkF at ih1
        rw [if_neg (by omega), if_pos rfl] at ih1
        have s1 := (glD_ok hk.2.2.1 hi).2.1
        have s2 := (glD_ok hk.2.2.1 hj2).2.1
        rw [(hC.gl hi).2.1, (hC.gl hj2).2.1, nI_eq (by omega) (by omega)]
        refine ⟨vin (by omega), vin (by omega), fun f => ?_, fun f => ?_⟩
        · rw [if_pos f] at ih1; exact ih1
        · rw [if_neg f, Int32.add_zero] at ih1; exact ih1
theorem like_ok {a b u : Nat} {x : Gl} (ha : kd a = 4) (hb : kd b = 4) (hab : a ≠ b) (hx : GlAt M b x) (h5 : M.1 b 5 = nI u) (h : ∀ M', Eqv (fun o _ => o = a) M M' → GlAt M' a x → M'.1 a 5 = nI u → Q none M') : C_X4_becomeLike G a b M Q := by
  obtain ⟨x0, x1, x2, x3, x4⟩ := hx
  refine v_X4_becomeLike ha hb ?_
  rintro M1 e1 M2 e2 M3 e3 M4 e4 M5 e5 M6 e6
  have v1 : Eqv (fun o _ => o = a) M M1 := by rw [e1]; exact Eqv.rf.upI rfl
  have v2 : Eqv (fun o _ => o = a) M M2 := by rw [e2]; exact v1.upI rfl
  have v3 : Eqv (fun o _ => o = a) M M3 := by rw [e3]; exact v2.upI rfl
  have v4 : Eqv (fun o _ => o = a) M M4 := by rw [e4]; exact v3.upI rfl
  have v5 : Eqv (fun o _ => o = a) M M5 := by rw [e5]; exact v4.upI rfl
  have v6 : Eqv (fun o _ => o = a) M M6 := by rw [e6]; exact v5.upI rfl
  rw [x0] at e1
  rw [v1.i (fun q => hab q.symm), x1] at e2
  rw [v2.i (fun q => hab q.symm), x2] at e3
  rw [v3.i (fun q => hab q.symm), x3] at e4
  rw [v4.i (fun q => hab q.symm), x4] at e5
  rw [v5.i (fun q => hab q.symm), h5] at e6
  refine h M6 v6 ⟨?_, ?_, ?_, ?_, ?_⟩ ?_ <;> rw [e6, e5, e4, e3, e2, e1]
  · rw [upI_n _ _ (by omega), upI_n _ _ (by omega), upI_n _ _ (by omega), upI_n _ _ (by omega), upI_n _ _ (by omega), upI_s]
  · rw [upI_n _ _ (by omega), upI_n _ _ (by omega), upI_n _ _ (by omega), upI_n _ _ (by omega), upI_s]
  · rw [upI_n _ _ (by omega), upI_n _ _ (by omega), upI_n _ _ (by omega), upI_s]
  · rw [upI_n _ _ (by omega), upI_n _ _ (by omega), upI_s]
  · rw [upI_n _ _ (by omega), upI_s]
  · rw [upI_s]
theorem gain_loop (hk : SOk S) {i : Nat} (hi : i < dn S.2.2.1) (hC : RC S M) (h37 : GlAt M 37 (2, (glD S.2.2.1 i).2)) (h : Q (some (.int (sm (mkF S.2.2.1 i 5) (dn S.2.2.1)))) M) : ∀ (k j : Nat), j + k = dn S.2.2.1 → P_X5_gainOfStretch_26 G (nI i) (sm (mkF S.2.2.1 i 5) j) (nI j) M Q := by
  have h8 := hk.2.2.1.1
  intro k
  induction k with
  | zero =>
    intro j hj
    have : j = dn S.2.2.1 := by omega
    rw [this]
    refine v_X5_gainOfStretch_26 ?_
    rw [hC.nz]
    exact br_f (nI_nlt (Nat.le_refl _) (by omega)) h
  | succ k ih =>
    intro j hj
    have hj2 : j < dn S.2.2.1 := by omega
    have ih1 := ih (j + 1) (by omega)
    rw [show sm (mkF S.2.2.1 i 5) (j + 1) = sm (mkF S.2.2.1 i 5) j + mkF S.2.2.1 i 5 j from rfl] at ih1
    refine v_X5_gainOfStretch_26 ?_
    rw [hC.nz, nI_1, nI_eq (by omega) (by omega), ncl (by omega), ncl (by omega)]
    refine br_t (nI_lt hj2 (by omega)) ⟨fun c => ?_, fun c => ?_⟩
    · unfold mkF at ih1
      rw [if_pos (Or.inl c), Int32.add_zero] at ih1
      exact ih1
    · refine inside_ok hC.nz h8 hj2 (hC.wh hj2) (whO_lt _ _) (RI.mk ⟨fun d => ?_, fun d => ?_⟩)
      · unfold mkF at ih1
        rw [if_pos (Or.inr (bu0.mp d)), Int32.add_zero] at ih1
        exact ih1
      · have d0 : whO (dL S.2.2.1) j = 0 := by
          by_cases q : whO (dL S.2.2.1) j = 0
          · exact q
          · exact absurd (bu0.mpr q) d
        unfold mkF at ih1
        rw [if_neg (by omega), if_neg (by decide), if_neg (by decide)] at ih1
        have ok1 := glD_ok hk.2.2.1 hi
        have ok2 : GlOk (2, (glD S.2.2.1 i).2) := ⟨by show 2 < 6; decide, ok1.2⟩
        refine ⟨vin (by omega), vin (by omega), goodWith_ok (kd8 hk.2.2.1 hi) (kd8 hk.2.2.1 hj2) (hC.gl hi) ok1 (hC.gl hj2) (glD_ok hk.2.2.1 hj2) (RI.mk ⟨vin (by omega), ?_⟩)⟩
        exact goodWith_ok rfl (kd8 hk.2.2.1 hj2) h37 ok2 (hC.gl hj2) (glD_ok hk.2.2.1 hj2) (RI.mk ih1)
theorem oI_n9' {o : Option Nat} (h : ∀ v, o = some v → v < 25) : oI o = -9 ↔ o = none := oI_n9 fun v hv => by have := h v hv; omega
theorem old_tab : ∀ r, r < 64 → (if (0 : Int32) < 6 - nI r then 6 - nI r else 0) = nI (6 - r) := by decide +kernel
theorem isN5 {k : Nat} (h : isN k 5 = true) : k = 5 := by
  unfold isN at h
  simp only [show ((5 : Nat) == 0) = false from rfl, show ((5 : Nat) == 1) = false from rfl, show ((5 : Nat) == 2) = false from rfl, Bool.false_and, Bool.or_false] at h
  exact (beq_iff_eq.mp h).symm
end GLW
