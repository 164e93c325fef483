/-! what a call of the class answers and leaves hangs on the state alone: rows, deeds, kept drawers -/
def Dt (C : Glob → Mem → (Option Value → Mem → Prop) → Prop) (S : St) (P : Int32 → St → Prop) : Prop := ∃ (r : Int32) (S' : St), SOk S' ∧ P r S' ∧ ∀ (G : Glob) (M : Mem) (Q : Option Value → Mem → Prop), RC S M → (∀ M', RC S' M' → Q (some (.int r)) M') → C G M Q
/-- as many gloves as before -/
def Pn (S : St) : Int32 → St → Prop := fun _ S' => dn S'.2.2.1 = dn S.2.2.1
/-- deeds more, nothing else -/
def Pd (S : St) : Int32 → St → Prop := fun _ S' => ∃ E : List Deed, S' = sL S (dL S.2.2.1 ++ E)
def sK (S : St) (K : Ke) : St := (S.1, S.2.1, S.2.2.1, K, S.2.2.2.2)
def sT (S : St) (s : RSt) : St := (S.1, s, S.2.2)
theorem Dt.mono {C : Glob → Mem → (Option Value → Mem → Prop) → Prop} {S : St} {P P' : Int32 → St → Prop} (h : Dt C S P) (hp : ∀ r S', P r S' → P' r S') : Dt C S P' := by
  obtain ⟨r, S', a, b, c⟩ := h
  exact ⟨r, S', a, hp r S' b, c⟩
theorem Pd.pn {S : St} {r : Int32} {S' : St} (h : Pd S r S') : Pn S r S' := by
  obtain ⟨E, rfl⟩ := h
  rfl
theorem Pd.rf (S : St) (r : Int32) : Pd S r S := ⟨[], by rw [List.append_nil]; rfl⟩
section DTA
variable {G : Glob} {M : Mem} {Q : Option Value → Mem → Prop} {S : St}
theorem dt_row (hk : SOk S) (x y : Int32) : Dt (fun G M Q => C_X10_row G x y M Q) S (Pn S) := by
  rcases ix3 x (n := 6) (by decide) with hx | ⟨r, hr, rfl⟩
  · exact ⟨-1, S, hk, rfl, fun G M Q hC h => v_X10_row (num_out RPk.R hx (RI.mk (br_t rfl (h M hC))))⟩
  by_cases c : (40 : Int32) < y
  · exact ⟨-1, S, hk, rfl, fun G M Q hC h => v_X10_row (num_in RPk.R hr (RI.mk (br_f (by decide) (br_t c (h M hC)))))⟩
  by_cases c2 : y < 0
  · exact ⟨-3, sF S 5, hk.sF 5, rfl, fun G M Q hC h => v_X10_row (num_in RPk.R hr (RI.mk (br_f (by decide) (br_f c (br_t c2 (c_finds (f := 5) hk hC (by decide) (by decide) fun M1 hC1 e1 => RI.mk (h M1 hC1)))))))⟩
  · obtain ⟨n, hn, rfl⟩ := nI_of2 (n := 40) (M := 40) (by decide) c2 (Int32.not_lt.mp c)
    exact ⟨nI n, sR S (rBeg S.1 r n 0), ⟨hk.1.beg hn 0, hk.2⟩, rfl, fun G M Q hC h => v_X10_row (num_in RPk.R hr (RI.mk (br_f (by decide) (br_f c (br_f c2 (begin_ok RPk.R hC.1 hr hn fun M1 e1 hC1 => RV.mk (h M1 (hC.sR hk e1 (by omega) hC1))))))))⟩
theorem dt_lay (hk : SOk S) (x y z : Int32) : Dt (fun G M Q => C_X10_lay G x y z M Q) S (Pn S) := by
  rcases ix3 x (n := 6) (by decide) with hx | ⟨r, hr, rfl⟩
  · exact ⟨-1, S, hk, rfl, fun G M Q hC h => v_X10_lay (c_refPl_n hx (RI.mk (br_f (by decide) (h M hC))))⟩
  cases hn : S.1.1 r with
  | none => exact ⟨-3, sF S 1, hk.sF 1, rfl, fun G M Q hC h => v_X10_lay (c_refPl_m hk hC hr hn fun M1 hC1 e1 => RI.mk (br_f (by decide) (h M1 hC1)))⟩
  | some n =>
    have hn40 := hk.1 r hr n hn
    rcases ix3 y (n := n) (by omega) with hy | ⟨i, hi, rfl⟩
    · exact ⟨-3, sF S 2, hk.sF 2, rfl, fun G M Q hC h => v_X10_lay (c_refPl_b hk hC hr hn hy fun M1 hC1 e1 => RI.mk (br_f (by decide) (h M1 hC1)))⟩
    · have hk' : SOk (rWrt S.1 r i z, S.2) := hk
      refine ⟨1, sA (rWrt S.1 r i z, S.2) (S.1.2 r i), hk'.sA _, rfl, fun G M Q hC h => ?_⟩
      have eC : Eqv (fun a k => a = 45 + r) M (upI M (45 + r) i z) := Eqv.rf.upI rfl
      have hC0 : RC (rWrt S.1 r i z, S.2) (upI M (45 + r) i z) := hC.sR hk eC (by omega) (hC.1.write RPk.R hr i z)
      exact v_X10_lay (c_refPl_y hk hC hr hn hi (RI.mk (br_t rfl (read_ok RPk.R hC.1 hk.1 hr hn hi (RI.mk (write_ok RPk.R hC.1 hk.1 hr hn hi (RV.mk (c_tells hk' hC0 fun M1 hC1 e1 => RI.mk (h M1 hC1)))))))))
/-! deeds -/
theorem c_wearC (hk : SOk S) (hC : RC S M) {i j : Nat} (hi : i < dn S.2.2.1) (hj : j < dn S.2.2.1) (hij : i ≠ j) (h : (whO (dL S.2.2.1) i = 0 → (whO (dL S.2.2.1) j = 0 → (gw (glD S.2.2.1 i) (glD S.2.2.1 j) = none → Q (some (.int (-4))) M) ∧ (gw (glD S.2.2.1 i) (glD S.2.2.1 j) ≠ none → ((dL S.2.2.1).length = 40 → Q (some (.int (-2))) M) ∧ ((dL S.2.2.1).length ≠ 40 → ∀ M', RC (sL S (dL S.2.2.1 ++ [(1, i, j)])) M' → Q (some (.int (oI (gw (glD S.2.2.1 i) (glD S.2.2.1 j))))) M'))) ∧ (whO (dL S.2.2.1) j ≠ 0 → Q (some (.int (-4))) M)) ∧ (whO (dL S.2.2.1) i ≠ 0 → Q (some (.int (-4))) M)) : C_X10_wear G (nI i) (nI j) M Q := by
  have h8 := hk.2.2.1.1
  have h40 := hk.2.2.1.2.2.2.1
  have ok1 := glD_ok hk.2.2.1 hi
  have ok2 := glD_ok hk.2.2.1 hj
  refine v_X10_wear (has_y hC.nz h8 hi (RI.mk (br_f (by decide) (has_y hC.nz h8 hj (RI.mk (br_f (by decide) (br_f (fun q => hij ((nI_eq (by omega) (by omega)).mp q)) ⟨vin (by omega), vin (by omega), ?_⟩)))))))
  rw [ncl (by omega), ncl (by omega)]
  refine goodWith_ok (kd8 hk.2.2.1 hi) (kd8 hk.2.2.1 hj) (hC.gl hi) ok1 (hC.gl hj) ok2 (RI.mk ?_)
  refine inside_ok hC.nz h8 hi (hC.wh hi) (whO_lt _ _) (RI.mk ⟨fun c => h.2 (bu0.mp c), fun c => ?_⟩)
  have c0 : whO (dL S.2.2.1) i = 0 := Classical.byContradiction fun q => c (bu0.mpr q)
  refine inside_ok hC.nz h8 hj (hC.wh hj) (whO_lt _ _) (RI.mk ⟨fun d => (h.1 c0).2 (bu0.mp d), fun d => ?_⟩)
  have d0 : whO (dL S.2.2.1) j = 0 := Classical.byContradiction fun q => d (bu0.mpr q)
  have h2 := (h.1 c0).1 d0
  rw [oI_n9' (fun v hv => gw_lt ok1 ok2 hv)]
  refine ⟨h2.1, fun e => left_ok hC.nd h40 (RI.mk ?_)⟩
  rw [left1 h40]
  refine ⟨(h2.2 e).1, fun f => ?_⟩
  have hd : DdOk (dn S.2.2.1) (1, i, j) := ⟨show 1 < 5 by decide, hi, hj, fun q => absurd (show 1 = 0 from q) (by decide), fun q => absurd (show 2 ≤ 1 from q) (by decide), fun _ => hij⟩
  exact c_act (d := (1, i, j)) hk hC hd (by omega) fun M1 hC1 e1 => RV.mk ((h2.2 e).2 f M1 hC1)
theorem dt_wear (hk : SOk S) (x y : Int32) : Dt (fun G M Q => C_X10_wear G x y M Q) S (Pd S) := by
  have h8 := hk.2.2.1.1
  rcases ix3 x (n := dn S.2.2.1) (by omega) with hx | ⟨i, hi, rfl⟩
  · exact ⟨-1, S, hk, Pd.rf _ _, fun G M Q hC h => v_X10_wear (has_n hC.nz hx (RI.mk (br_t rfl (h M hC))))⟩
  rcases ix3 y (n := dn S.2.2.1) (by omega) with hy | ⟨j, hj, rfl⟩
  · exact ⟨-1, S, hk, Pd.rf _ _, fun G M Q hC h => v_X10_wear (has_y hC.nz h8 hi (RI.mk (br_f (by decide) (has_n hC.nz hy (RI.mk (br_t rfl (h M hC)))))))⟩
  by_cases hij : i = j
  · subst hij
    exact ⟨-1, S, hk, Pd.rf _ _, fun G M Q hC h => v_X10_wear (has_y hC.nz h8 hi (RI.mk (br_f (by decide) (has_y hC.nz h8 hj (RI.mk (br_f (by decide) (br_t rfl (h M hC))))))))⟩
  by_cases c : whO (dL S.2.2.1) i = 0
  · by_cases d : whO (dL S.2.2.1) j = 0
    · by_cases e : gw (glD S.2.2.1 i) (glD S.2.2.1 j) = none
      · exact ⟨-4, S, hk, Pd.rf _ _, fun G M Q hC h => c_wearC hk hC hi hj hij ⟨fun _ => ⟨fun _ => ⟨fun _ => h M hC, fun q => absurd e q⟩, fun q => absurd d q⟩, fun q => absurd c q⟩⟩
      · by_cases f : (dL S.2.2.1).length = 40
        · exact ⟨-2, S, hk, Pd.rf _ _, fun G M Q hC h => c_wearC hk hC hi hj hij ⟨fun _ => ⟨fun _ => ⟨fun q => absurd q e, fun _ => ⟨fun _ => h M hC, fun q => absurd f q⟩⟩, fun q => absurd d q⟩, fun q => absurd c q⟩⟩
        · have hd : DdOk (dn S.2.2.1) (1, i, j) := ⟨show 1 < 5 by decide, hi, hj, fun q => absurd (show 1 = 0 from q) (by decide), fun q => absurd (show 2 ≤ 1 from q) (by decide), fun _ => hij⟩
          have hk' : SOk (sL S (dL S.2.2.1 ++ [(1, i, j)])) := hk.sL (hk.2.2.1.2.2.2.app (by have := hk.2.2.1.2.2.2.1; omega) hd)
          exact ⟨_, sL S (dL S.2.2.1 ++ [(1, i, j)]), hk', ⟨_, rfl⟩, fun G M Q hC h => c_wearC hk hC hi hj hij ⟨fun _ => ⟨fun _ => ⟨fun q => absurd q e, fun _ => ⟨fun q => absurd q f, fun _ => h⟩⟩, fun q => absurd d q⟩, fun q => absurd c q⟩⟩
    · exact ⟨-4, S, hk, Pd.rf _ _, fun G M Q hC h => c_wearC hk hC hi hj hij ⟨fun _ => ⟨fun q => absurd q d, fun _ => h M hC⟩, fun q => absurd c q⟩⟩
  · exact ⟨-4, S, hk, Pd.rf _ _, fun G M Q hC h => c_wearC hk hC hi hj hij ⟨fun q => absurd q c, fun _ => h M hC⟩⟩
theorem c_loseC (hk : SOk S) (hC : RC S M) {i : Nat} (hi : i < dn S.2.2.1) (h : (whO (dL S.2.2.1) i = 0 → (gK (glD S.2.2.1 i) = 3 → Q (some (.int (-4))) M) ∧ (gK (glD S.2.2.1 i) ≠ 3 → ((dL S.2.2.1).length = 40 → Q (some (.int (-2))) M) ∧ ((dL S.2.2.1).length ≠ 40 → ∀ M', RC (sL S (dL S.2.2.1 ++ [(2, i, i)])) M' → Q (some (.int (nI (pop (sIn (sL S (dL S.2.2.1 ++ [(2, i, i)])).2.2.1 0))))) M'))) ∧ (whO (dL S.2.2.1) i ≠ 0 → Q (some (.int (-4))) M)) : C_X10_lose G (nI i) M Q := by
  have h8 := hk.2.2.1.1
  have h40 := hk.2.2.1.2.2.2.1
  have ok1 := glD_ok hk.2.2.1 hi
  refine v_X10_lose (has_y hC.nz h8 hi (RI.mk (br_f (by decide) (v_X3_canBeLost (inside_ok hC.nz h8 hi (hC.wh hi) (whO_lt _ _) (RI.mk ⟨fun c => ?_, fun c => ⟨vin (by omega), ?_⟩⟩))))))
  · exact RI.mk (br_t rfl (h.2 (bu0.mp c)))
  have c0 : whO (dL S.2.2.1) i = 0 := Classical.byContradiction fun q => c (bu0.mpr q)
  have h2 := h.1 c0
  rw [ncl (by omega), (hC.gl hi).1, show (3 : Int32) = nI 3 from rfl, nI_eq (by have := ok1.1; omega) (by omega)]
  refine ⟨fun d => RI.mk (br_t rfl (h2.1 d)), fun d => RI.mk (br_f (by decide) (left_ok hC.nd h40 (RI.mk ?_)))⟩
  rw [left1 h40]
  exact ⟨(h2.2 d).1, fun f => c_act1 (w := 2) hk hC (by omega) (by omega) hi (by omega) fun M1 hk' hC1 e1 => (h2.2 d).2 f M1 hC1⟩
theorem dt_lose (hk : SOk S) (x : Int32) : Dt (fun G M Q => C_X10_lose G x M Q) S (Pd S) := by
  have h8 := hk.2.2.1.1
  rcases ix3 x (n := dn S.2.2.1) (by omega) with hx | ⟨i, hi, rfl⟩
  · exact ⟨-1, S, hk, Pd.rf _ _, fun G M Q hC h => v_X10_lose (has_n hC.nz hx (RI.mk (br_t rfl (h M hC))))⟩
  by_cases c : whO (dL S.2.2.1) i = 0
  · by_cases d : gK (glD S.2.2.1 i) = 3
    · exact ⟨-4, S, hk, Pd.rf _ _, fun G M Q hC h => c_loseC hk hC hi ⟨fun _ => ⟨fun _ => h M hC, fun q => absurd d q⟩, fun q => absurd c q⟩⟩
    · by_cases f : (dL S.2.2.1).length = 40
      · exact ⟨-2, S, hk, Pd.rf _ _, fun G M Q hC h => c_loseC hk hC hi ⟨fun _ => ⟨fun q => absurd q d, fun _ => ⟨fun _ => h M hC, fun q => absurd f q⟩⟩, fun q => absurd c q⟩⟩
      · have hk' : SOk (sL S (dL S.2.2.1 ++ [(2, i, i)])) := hk.sL (hk.2.2.1.2.2.2.app (by have := hk.2.2.1.2.2.2.1; omega) (dd1 (by omega) (by omega) hi))
        exact ⟨_, sL S (dL S.2.2.1 ++ [(2, i, i)]), hk', ⟨_, rfl⟩, fun G M Q hC h => c_loseC hk hC hi ⟨fun _ => ⟨fun q => absurd q d, fun _ => ⟨fun q => absurd q f, fun _ => h⟩⟩, fun q => absurd c q⟩⟩
  · exact ⟨-4, S, hk, Pd.rf _ _, fun G M Q hC h => c_loseC hk hC hi ⟨fun q => absurd q c, fun _ => h M hC⟩⟩
theorem c_backC (hk : SOk S) (hC : RC S M) {i : Nat} (hi : i < dn S.2.2.1) (h : (whO (dL S.2.2.1) i = 1 → (pop (sIn S.2.2.1 0) < drm S.2.2.1 → ((dL S.2.2.1).length = 40 → Q (some (.int (-2))) M) ∧ ((dL S.2.2.1).length ≠ 40 → ∀ M', RC (sL S (dL S.2.2.1 ++ [(3, i, i)])) M' → Q (some (.int (nI (pop (sIn (sL S (dL S.2.2.1 ++ [(3, i, i)])).2.2.1 0))))) M')) ∧ (¬ pop (sIn S.2.2.1 0) < drm S.2.2.1 → Q (some (.int (-6))) M)) ∧ (whO (dL S.2.2.1) i ≠ 1 → Q (some (.int (-4))) M)) : C_X10_back G (nI i) M Q := by
  have h8 := hk.2.2.1.1
  have h40 := hk.2.2.1.2.2.2.1
  refine v_X10_back (has_y hC.nz h8 hi (RI.mk (br_f (by decide) ⟨vin (by omega), ?_⟩)))
  rw [ncl (by omega), hC.wh hi, show (1 : Int32) = nI 1 from rfl, wh_iff (by omega)]
  refine ⟨fun c => room_ok hk.2.2.1 hC.2.2.1 (RI.mk ⟨fun d => (h.1 c).2 (of_decide_eq_false (bI_0.mp d)), fun d => left_ok hC.nd h40 (RI.mk ?_)⟩), h.2⟩
  have d' : pop (sIn S.2.2.1 0) < drm S.2.2.1 := of_decide_eq_true (bI_n0.mp d)
  have hl := left1 h40
  rw [show (1 : Int32) = nI 1 from rfl] at hl
  rw [hl]
  exact ⟨((h.1 c).1 d').1, fun f => c_act1 (w := 3) hk hC (by omega) (by omega) hi (by omega) fun M1 hk' hC1 e1 => ((h.1 c).1 d').2 f M1 hC1⟩
theorem dt_back (hk : SOk S) (x : Int32) : Dt (fun G M Q => C_X10_back G x M Q) S (Pd S) := by
  have h8 := hk.2.2.1.1
  rcases ix3 x (n := dn S.2.2.1) (by omega) with hx | ⟨i, hi, rfl⟩
  · exact ⟨-1, S, hk, Pd.rf _ _, fun G M Q hC h => v_X10_back (has_n hC.nz hx (RI.mk (br_t rfl (h M hC))))⟩
  by_cases c : whO (dL S.2.2.1) i = 1
  · by_cases d : pop (sIn S.2.2.1 0) < drm S.2.2.1
    · by_cases f : (dL S.2.2.1).length = 40
      · exact ⟨-2, S, hk, Pd.rf _ _, fun G M Q hC h => c_backC hk hC hi ⟨fun _ => ⟨fun _ => ⟨fun _ => h M hC, fun q => absurd f q⟩, fun q => absurd d q⟩, fun q => absurd c q⟩⟩
      · have hk' : SOk (sL S (dL S.2.2.1 ++ [(3, i, i)])) := hk.sL (hk.2.2.1.2.2.2.app (by have := hk.2.2.1.2.2.2.1; omega) (dd1 (by omega) (by omega) hi))
        exact ⟨_, sL S (dL S.2.2.1 ++ [(3, i, i)]), hk', ⟨_, rfl⟩, fun G M Q hC h => c_backC hk hC hi ⟨fun _ => ⟨fun _ => ⟨fun q => absurd q f, fun _ => h⟩, fun q => absurd d q⟩, fun q => absurd c q⟩⟩
    · exact ⟨-6, S, hk, Pd.rf _ _, fun G M Q hC h => c_backC hk hC hi ⟨fun _ => ⟨fun q => absurd q d, fun _ => h M hC⟩, fun q => absurd c q⟩⟩
  · exact ⟨-4, S, hk, Pd.rf _ _, fun G M Q hC h => c_backC hk hC hi ⟨fun q => absurd q c, fun _ => h M hC⟩⟩
theorem c_outC (hk : SOk S) (hC : RC S M) {i : Nat} (hi : i < dn S.2.2.1) (h : (whO (dL S.2.2.1) i = 2 → Q (some (.int (-4))) M) ∧ (whO (dL S.2.2.1) i ≠ 2 → ((dL S.2.2.1).length = 40 → Q (some (.int (-2))) M) ∧ ((dL S.2.2.1).length ≠ 40 → ∀ M', RC (sL S (dL S.2.2.1 ++ [(4, i, i)])) M' → Q (some (.int (nI (pop (sIn (sL S (dL S.2.2.1 ++ [(4, i, i)])).2.2.1 0))))) M'))) : C_X10_out G (nI i) M Q := by
  have h8 := hk.2.2.1.1
  have h40 := hk.2.2.1.2.2.2.1
  refine v_X10_out (has_y hC.nz h8 hi (RI.mk (br_f (by decide) ⟨vin (by omega), ?_⟩)))
  rw [ncl (by omega), hC.wh hi, show (2 : Int32) = nI 2 from rfl, wh_iff (by omega)]
  refine ⟨h.1, fun c => left_ok hC.nd h40 (RI.mk ?_)⟩
  rw [left1 h40]
  exact ⟨(h.2 c).1, fun f => c_act1 (w := 4) hk hC (by omega) (by omega) hi (by omega) fun M1 hk' hC1 e1 => (h.2 c).2 f M1 hC1⟩
theorem dt_out (hk : SOk S) (x : Int32) : Dt (fun G M Q => C_X10_out G x M Q) S (Pd S) := by
  have h8 := hk.2.2.1.1
  rcases ix3 x (n := dn S.2.2.1) (by omega) with hx | ⟨i, hi, rfl⟩
  · exact ⟨-1, S, hk, Pd.rf _ _, fun G M Q hC h => v_X10_out (has_n hC.nz hx (RI.mk (br_t rfl (h M hC))))⟩
  by_cases c : whO (dL S.2.2.1) i = 2
  · exact ⟨-4, S, hk, Pd.rf _ _, fun G M Q hC h => c_outC hk hC hi ⟨fun _ => h M hC, fun q => absurd c q⟩⟩
  · by_cases f : (dL S.2.2.1).length = 40
    · exact ⟨-2, S, hk, Pd.rf _ _, fun G M Q hC h => c_outC hk hC hi ⟨fun q => absurd q c, fun _ => ⟨fun _ => h M hC, fun q => absurd f q⟩⟩⟩
    · have hk' : SOk (sL S (dL S.2.2.1 ++ [(4, i, i)])) := hk.sL (hk.2.2.1.2.2.2.app (by have := hk.2.2.1.2.2.2.1; omega) (dd1 (by omega) (by omega) hi))
      exact ⟨_, sL S (dL S.2.2.1 ++ [(4, i, i)]), hk', ⟨_, rfl⟩, fun G M Q hC h => c_outC hk hC hi ⟨fun q => absurd q c, fun _ => ⟨fun q => absurd q f, fun _ => h⟩⟩⟩
theorem c_undoC (hk : SOk S) (hC : RC S M) {m : Nat} (hm : m ≤ (dL S.2.2.1).length) (h : ∀ M', RC (sL S ((dL S.2.2.1).take m)) M' → Q (some (.int (nI (dL S.2.2.1).length - nI m))) M') : C_X10_undo G (nI m) M Q := by
  have h40 := hk.2.2.1.2.2.2.1
  refine v_X10_undo ?_
  rw [hC.nd]
  refine br_f (nI_pos (by omega)) (br_f (nI_nlt hm (by omega)) ?_)
  rintro _ rfl
  have hll : ((dL S.2.2.1).take m).length = m := by rw [List.length_take]; omega
  refine c_re hk hC (hk.2.2.1.2.2.2.tk m) (Eqv.rf.upI (by omega)) (by rw [upI_s, hll]) (fun j d hj => ?_) fun M1 hC1 e1 => RV.mk (h M1 hC1)
  rw [upI_n _ _ (by omega)]; exact hC.2.2.1.2.2.2.2 j d (tk_get hj)
theorem c_undoN (hk : SOk S) (hC : RC S M) {x : Int32} (hx : x < 0 ∨ nI (dL S.2.2.1).length < x) (h : Q (some (.int (-1))) M) : C_X10_undo G x M Q := by
  refine v_X10_undo ?_
  rw [hC.nd]
  exact ⟨fun _ => h, fun c => br_t (hx.resolve_left c) h⟩
theorem dt_undo (hk : SOk S) (x : Int32) : Dt (fun G M Q => C_X10_undo G x M Q) S (Pn S) := by
  have h40 := hk.2.2.1.2.2.2.1
  by_cases c : x < 0
  · exact ⟨-1, S, hk, rfl, fun G M Q hC h => c_undoN hk hC (Or.inl c) (h M hC)⟩
  by_cases d : nI (dL S.2.2.1).length < x
  · exact ⟨-1, S, hk, rfl, fun G M Q hC h => c_undoN hk hC (Or.inr d) (h M hC)⟩
  obtain ⟨m, hm, rfl⟩ := nI_of2 (n := (dL S.2.2.1).length) (by rw [nI_toInt (by omega)]) c (Int32.not_lt.mp d)
  exact ⟨_, _, hk.sL (hk.2.2.1.2.2.2.tk m), rfl, fun G M Q hC h => c_undoC hk hC hm h⟩
theorem KOk.up (hk : SOk S) (h0 : 0 < dn S.2.2.1) (k : Nat) : SOk (sK S (fu S.2.2.2.1 k (some (dL S.2.2.1)))) := ⟨hk.1, hk.2.1, hk.2.2.1, fun k' hk' L hL => by
  have hL' : fu S.2.2.2.1 k (some (dL S.2.2.1)) k' = some L := hL
  by_cases q : k' = k
  · subst q; rw [fu_s] at hL'; cases hL'; exact ⟨hk.2.2.1.2.2.2, h0⟩
  · rw [fu_n _ _ q] at hL'; exact hk.2.2.2 k' hk' L hL'⟩
theorem c_keepC (hk : SOk S) (hC : RC S M) {k : Nat} (hk3 : k < 3) (h0 : 0 < dn S.2.2.1) (h : ∀ M', RC (sK S (fu S.2.2.2.1 k (some (dL S.2.2.1)))) M' → Q (some (.int (nI (dL S.2.2.1).length))) M') : C_X10_keep G (nI k) M Q := by
  have h8 := hk.2.2.1.1
  have h40 := hk.2.2.1.2.2.2.1
  refine v_X10_keep (br_f (nI_pos (by omega)) (br_t (show nI k < nI 3 from nI_lt hk3 (by omega)) ?_))
  rw [hC.nz, dn0 h8]
  obtain ⟨r1, r2, r3⟩ := rf0 hk3
  refine br_f (by omega) ⟨vin hk3, ?_⟩
  rw [ncl (by omega)]
  refine blike_ok (A := 20 + k) (B := 15) r2 rfl r1 rfl r3 rfl (by omega) (by omega) (by omega) fun M1 e1 v1 w1 => RV.mk ⟨vin hk3, ?_⟩
  rw [hC.nd] at v1
  rw [v1]
  refine h M1 (hC.sK hk e1 (by omega) fun k' hk' => ?_)
  by_cases q : k' = k
  · subst q
    rw [fu_s, v1]
    refine ⟨rfl, fun L hL => ?_⟩
    cases hL
    intro j d hj
    have := ge_of hj
    rw [w1 j (by omega)]
    exact hC.2.2.1.2.2.2.2 j d hj
  · rw [fu_n _ _ q, e1.i (by omega)]
    exact ⟨(hC.2.2.2.1 k' hk').1, fun L hL => ((hC.2.2.2.1 k' hk').2 L hL).eqv e1 (by omega)⟩
theorem c_keepN {x : Int32} (hx : x < 0 ∨ nI 3 ≤ x) (h : Q (some (.int (-1))) M) : C_X10_keep G x M Q :=
  v_X10_keep ⟨fun _ => h, fun c => br_f (Int32.not_lt.mpr (hx.resolve_left c)) h⟩
theorem dt_keep (hk : SOk S) (x : Int32) : Dt (fun G M Q => C_X10_keep G x M Q) S (Pn S) := by
  have h8 := hk.2.2.1.1
  rcases ix3 x (n := 3) (by decide) with hx | ⟨k, hk3, rfl⟩
  · exact ⟨-1, S, hk, rfl, fun G M Q hC h => c_keepN hx (h M hC)⟩
  by_cases c : dn S.2.2.1 = 0
  · refine ⟨-4, S, hk, rfl, fun G M Q hC h => v_X10_keep (br_f (nI_pos (by omega)) (br_t (show nI k < nI 3 from nI_lt hk3 (by omega)) ?_))⟩
    rw [hC.nz, dn0 h8]
    exact br_t c (h M hC)
  · exact ⟨_, _, KOk.up hk (by omega) k, rfl, fun G M Q hC h => c_keepC hk hC hk3 (by omega) h⟩
theorem c_onN {x : Int32} (hx : x < 0 ∨ nI 3 ≤ x) (h : Q (some (.int (-1))) M) : C_X10_on G x M Q :=
  v_X10_on ⟨fun _ => h, fun c => br_f (Int32.not_lt.mpr (hx.resolve_left c)) h⟩
theorem c_onC (hk : SOk S) (hC : RC S M) {k : Nat} (hk3 : k < 3) {L : List Deed} (hn : S.2.2.2.1 k = some L) (h : ∀ M', RC (sL S L) M' → Q (some (.int (nI L.length))) M') : C_X10_on G (nI k) M Q := by
  have hL := (hk.2.2.2 k hk3 L hn).1
  have h40 := hL.1
  have hk' : SOk (sL S L) := hk.sL hL
  have hlt : L.length < 2 ^ 31 := by omega
  obtain ⟨r1, r2, r3⟩ := rf0 hk3
  refine v_X10_on (br_f (nI_pos (by omega)) (br_t (show nI k < nI 3 from nI_lt hk3 (by omega)) ⟨vin hk3, ?_⟩))
  have hl1 := (hC.2.2.2.1 k hk3).1
  rw [hn] at hl1
  have hl1' : M.1 (17 + k) 1 = nI L.length := hl1
  rw [ncl (by omega), hl1']
  refine br_f (show ¬ nI L.length = -1 from nI_nm1 hlt) ⟨vin hk3, ?_⟩
  refine blike_ok (a := 14) (A := 15) (B := 20 + k) rfl r2 rfl r1 rfl r3 (by omega) (by omega) (by omega) fun M1 e1 v1 w1 => RV.mk ?_
  rw [hl1'] at v1
  refine c_re hk hC hL (e1.mono (by omega)) v1 (fun j d hj => ?_) fun M2 hC2 e2 => RV.mk ?_
  · have := ge_of hj
    rw [w1 j (by omega)]
    exact (hC.2.2.2.1 k hk3).2 L hn j d hj
  rw [hC2.nd]
  exact h M2 hC2
theorem dt_on (hk : SOk S) (x : Int32) : Dt (fun G M Q => C_X10_on G x M Q) S (Pn S) := by
  rcases ix3 x (n := 3) (by decide) with hx | ⟨k, hk3, rfl⟩
  · exact ⟨-1, S, hk, rfl, fun G M Q hC h => c_onN hx (h M hC)⟩
  cases hn : S.2.2.2.1 k with
  | none =>
    refine ⟨-3, sF S 1, hk.sF 1, rfl, fun G M Q hC h => v_X10_on (br_f (nI_pos (by omega)) (br_t (show nI k < nI 3 from nI_lt hk3 (by omega)) ⟨vin hk3, ?_⟩))⟩
    rw [ncl (by omega), (hC.2.2.2.1 k hk3).1, hn]
    exact br_t rfl (c_finds (f := 1) hk hC (by decide) (by decide) fun M1 hC1 e1 => RI.mk (h M1 hC1))
  | some L => exact ⟨_, _, hk.sL (hk.2.2.2 k hk3 L hn).1, rfl, fun G M Q hC h => c_onC hk hC hk3 hn h⟩
end DTA
