/-! promises 15 to 21 -/
section DLW
variable {G : Glob} {M : Mem} {Q : Option Value → Mem → Prop} {n : Nat} {S : St} {D : Dr}
/-- those that are at a place, as bits -/
def sIn (D : Dr) (w : Nat) : Nat := sb (fun i => whO (dL D) i == w) (dn D)
theorem sIn_lt (D : Dr) (h : dn D ≤ 8) (w : Nat) : sIn D w < 256 := p256 h (sb_lt _ _)
theorem set_loop (hk : DOk D) (hC : DrC D M) {w : Nat} (hw : w < 3) (h : Q (some (.int (nI (sIn D w)))) M) : ∀ (k j : Nat), j + k = dn D → P_X3_setOf_4 G (nI w) (nI (sb (fun i => whO (dL D) i == w) j)) (nI j) M Q := by
  have h8 := hk.1
  intro k
  induction k with
  | zero =>
    intro j hj
    have : j = dn D := by omega
    rw [this]
    refine v_X3_setOf_4 ?_
    rw [hC.1]
    exact br_f (nI_nlt (Nat.le_refl _) (by omega)) h
  | succ k ih =>
    intro j hj
    have hj2 : j < dn D := by omega
    have ih1 := ih (j + 1) (by omega)
    rw [show sb (fun i => whO (dL D) i == w) (j + 1) = sb (fun i => whO (dL D) i == w) j ||| (if whO (dL D) j == w then 2 ^ j else 0) from rfl] at ih1
    refine v_X3_setOf_4 ?_
    rw [hC.1, nI_1, ncl (by omega), (hC.2.2.1 j hj2).2, nI_eq (by have := whO_lt (dL D) j; omega) (by omega)]
    refine br_t (nI_lt hj2 (by omega)) ⟨vin (by omega), fun c => ?_, fun c => ?_⟩
    · rintro _ rfl
      rw [sh1_tab j (by omega), nx_or]
      rw [if_pos (beq_iff_eq.mpr c)] at ih1
      exact ih1
    · rw [if_neg (fun q => c (beq_iff_eq.mp q)), Nat.or_zero] at ih1
      exact ih1
theorem set_ok (hk : DOk D) (hC : DrC D M) {w : Nat} (hw : w < 3) (h : Q (some (.int (nI (sIn D w)))) M) : C_X3_setOf G (nI w) M Q :=
  v_X3_setOf (set_loop hk hC hw h (dn D) 0 (by omega))
theorem mset_loop (hk : DOk D) (hM : DrM D M) {w : Nat} (hw : w < 3) (h : Q (some (.int (nI (sIn D w)))) M) : ∀ (k j : Nat), j + k = dn D → P_X11_setIn_4 G (nI w) (nI (sb (fun i => whO (dL D) i == w) j)) (nI j) M Q := by
  have h8 := hk.1
  intro k
  induction k with
  | zero =>
    intro j hj
    have : j = dn D := by omega
    rw [this]
    refine v_X11_setIn_4 ?_
    rw [hM.1]
    exact br_f (nI_nlt (Nat.le_refl _) (by omega)) h
  | succ k ih =>
    intro j hj
    have hj2 : j < dn D := by omega
    have ih1 := ih (j + 1) (by omega)
    rw [show sb (fun i => whO (dL D) i == w) (j + 1) = sb (fun i => whO (dL D) i == w) j ||| (if whO (dL D) j == w then 2 ^ j else 0) from rfl] at ih1
    refine v_X11_setIn_4 ?_
    rw [hM.1, nI_1, ncl (by omega), (hM.2.2.1 j hj2).2, nI_eq (by have := whO_lt (dL D) j; omega) (by omega)]
    refine br_t (nI_lt hj2 (by omega)) ⟨vin (by omega), fun c => ?_, fun c => ?_⟩
    · rintro _ rfl
      rw [sh1_tab j (by omega), nx_or]
      rw [if_pos (beq_iff_eq.mpr c)] at ih1
      exact ih1
    · rw [show (0 : Int32) = nI 0 from rfl, nx_or]
      rw [if_neg (fun q => c (beq_iff_eq.mp q))] at ih1
      exact ih1
theorem mset_ok (hk : DOk D) (hM : DrM D M) {w : Nat} (hw : w < 3) (h : Q (some (.int (nI (sIn D w)))) M) : C_X11_setIn G (nI w) M Q :=
  v_X11_setIn (mset_loop hk hM hw h (dn D) 0 (by omega))
theorem many_in (hk : DOk D) (hC : DrC D M) (h : Q (some (.int (nI (pop (sIn D 0))))) M) : C_X3_howManyInside G M Q :=
  v_X3_howManyInside (set_ok (w := 0) hk hC (by decide) (RI.mk (bitc_ok (sIn_lt D hk.1 0) (RI.mk h))))
theorem m_many_in (hk : DOk D) (hM : DrM D M) (h : Q (some (.int (nI (pop (sIn D 0))))) M) : C_X11_inDrawer G M Q :=
  v_X11_inDrawer (mset_ok (w := 0) hk hM (by decide) (RI.mk (many_ok (sIn_lt D hk.1 0) (RI.mk h))))
theorem room_ok (hk : DOk D) (hC : DrC D M) (h : Q (some (.int (bI (decide (pop (sIn D 0) < drm D))))) M) : C_X3_hasRoom G M Q := by
  refine v_X3_hasRoom (many_in hk hC (RI.mk ?_))
  have := pop_le (sIn D 0)
  have := hk.2.1
  rw [hC.2.1, nI_ltI (by omega) (by omega)]
  refine ⟨fun c => ?_, fun c => ?_⟩
  · rw [decide_eq_true c] at h; exact h
  · rw [decide_eq_false c] at h; exact h
theorem left_ok (hz : M.1 14 1 = nI n) (hn : n ≤ 40) (h : Q (some (.int (nI (40 - n)))) M) : C_X2_roomLeft G 14 M Q := by
  refine v_X2_roomLeft rfl ?_
  rw [hz, show (40 : Int32) = nI 40 from rfl, pk_sub hn]
  exact h
theorem left1 {n : Nat} (hn : n ≤ 40) : nI (40 - n) < 1 ↔ n = 40 := by
  rw [show (1 : Int32) = nI 1 from rfl, nI_ltI (by omega) (by omega)]
  omega
theorem len40 {n : Nat} (hn : n ≤ 40) : nI n = 40 ↔ n = 40 := by rw [show (40 : Int32) = nI 40 from rfl, nI_eq (by omega) (by omega)]
theorem RC.nd (hC : RC S M) : M.1 14 1 = nI (dL S.2.2.1).length := hC.2.2.1.2.2.2.1
theorem RM.nd (hM : RM S M) : M.1 71 27 = nI (dL S.2.2.1).length := hM.2.2.1.2.2.2.1
theorem wh_iff {L : List Deed} {i w : Nat} (hw : w < 5) : nI (whO L i) = nI w ↔ whO L i = w := nI_eq (by have := whO_lt L i; omega) (by omega)
theorem wh0 {L : List Deed} {i : Nat} : nI (whO L i) = 0 ↔ whO L i = 0 := wh_iff (w := 0) (by omega)
/-- promise 15 -/
theorem law_wear (hB : Bo M) (x y : Int32) : C_X10_wear G x y M (RI fun r M1 => C_X11_wear G x y M1 (RI fun r2 M2 => r = r2 ∧ Bo M2)) := by
  obtain ⟨S, hk, hC, hM⟩ := id hB
  have h8 := hk.2.2.1.1
  have h40 := hk.2.2.1.2.2.2.1
  rcases ix3 x (n := dn S.2.2.1) (by omega) with hx | ⟨i, hi, rfl⟩
  · exact v_X10_wear (has_n hC.nz hx (RI.mk (br_t rfl (RI.mk (v_X11_wear (two_n1 hM.nz h8 hx (RI.mk (br_t rfl (RI.mk ⟨rfl, hB⟩)))))))))
  rcases ix3 y (n := dn S.2.2.1) (by omega) with hy | ⟨j, hj, rfl⟩
  · exact v_X10_wear (has_y hC.nz h8 hi (RI.mk (br_f (by decide) (has_n hC.nz hy (RI.mk (br_t rfl (RI.mk (v_X11_wear (two_n2 hM.nz h8 hi hy (RI.mk (br_t rfl (RI.mk ⟨rfl, hB⟩))))))))))))
  by_cases hij : i = j
  · subst hij
    exact v_X10_wear (has_y hC.nz h8 hi (RI.mk (br_f (by decide) (has_y hC.nz h8 hj (RI.mk (br_f (by decide) (br_t rfl (RI.mk (v_X11_wear (two_n3 hM.nz h8 hi (RI.mk (br_t rfl (RI.mk ⟨rfl, hB⟩)))))))))))))
  have ok1 := glD_ok hk.2.2.1 hi
  have ok2 := glD_ok hk.2.2.1 hj
  refine v_X10_wear (has_y hC.nz h8 hi (RI.mk (br_f (by decide) (has_y hC.nz h8 hj (RI.mk (br_f (by decide) (br_f (fun q => hij ((nI_eq (by omega) (by omega)).mp q)) ⟨vin (by omega), vin (by omega), ?_⟩)))))))
  rw [ncl (by omega), ncl (by omega)]
  have mst : ∀ {Q2 : Option Value → Mem → Prop} {M1 : Mem}, RM S M1 → ((whO (dL S.2.2.1) i = 0 → (whO (dL S.2.2.1) j = 0 → (gw (glD S.2.2.1 i) (glD S.2.2.1 j) = none → Q2 (some (.int (-4))) M1) ∧ (gw (glD S.2.2.1 i) (glD S.2.2.1 j) ≠ none → ((dL S.2.2.1).length = 40 → Q2 (some (.int (-2))) M1) ∧ ((dL S.2.2.1).length ≠ 40 → (WpM G 2 Y_X11_does [.ref (ad G 71), .int 0, .int (nI i), .int (nI j)] M1 (RV (fun M12 => Q2 (some (.int (oI (gw (glD S.2.2.1 i) (glD S.2.2.1 j))))) M12)))))) ∧ (whO (dL S.2.2.1) j ≠ 0 → Q2 (some (.int (-4))) M1)) ∧ (whO (dL S.2.2.1) i ≠ 0 → Q2 (some (.int (-4))) M1)) → C_X11_wear G (nI i) (nI j) M1 Q2 := by
    intro Q2 M1 hM1 hh
    refine v_X11_wear (two_y hM1.nz h8 hi hj hij (RI.mk (br_f (by decide) (m_pairOf_ok (by omega) (by omega) ok1 ok2 (hM1.gl hi) (hM1.gl hj) (RI.mk ⟨vin (by omega), ?_⟩)))))
    rw [ncl (by omega), ncl (by omega), hM1.wh hi, hM1.wh hj, show (0 : Int32) = nI 0 from rfl, wh_iff (by omega), wh_iff (by omega), oI_n9' (fun v hv => gw_lt ok1 ok2 hv), hM1.nd, len40 h40]
    exact ⟨fun c => ⟨vin (by omega), fun d => (hh.1 c).1 d, (hh.1 c).2⟩, hh.2⟩
  refine goodWith_ok (kd8 hk.2.2.1 hi) (kd8 hk.2.2.1 hj) (hC.gl hi) ok1 (hC.gl hj) ok2 (RI.mk ?_)
  refine inside_ok hC.nz h8 hi (hC.wh hi) (whO_lt _ _) (RI.mk ⟨fun c => ?_, fun c => ?_⟩)
  · have c' := bu0.mp c
    exact RI.mk (mst hM ⟨fun q => absurd q c', fun _ => RI.mk ⟨rfl, hB⟩⟩)
  have c0 : whO (dL S.2.2.1) i = 0 := Classical.byContradiction fun q => c (bu0.mpr q)
  refine inside_ok hC.nz h8 hj (hC.wh hj) (whO_lt _ _) (RI.mk ⟨fun d => ?_, fun d => ?_⟩)
  · have d' := bu0.mp d
    exact RI.mk (mst hM ⟨fun _ => ⟨fun q => absurd q d', fun _ => RI.mk ⟨rfl, hB⟩⟩, fun q => absurd c0 q⟩)
  have d0 : whO (dL S.2.2.1) j = 0 := Classical.byContradiction fun q => d (bu0.mpr q)
  rw [oI_n9' (fun v hv => gw_lt ok1 ok2 hv)]
  refine ⟨fun e => ?_, fun e => left_ok hC.nd h40 (RI.mk ?_)⟩
  · exact RI.mk (mst hM ⟨fun _ => ⟨fun _ => ⟨fun _ => RI.mk ⟨rfl, hB⟩, fun q => absurd e q⟩, fun q => absurd d0 q⟩, fun q => absurd c0 q⟩)
  rw [left1 h40]
  refine ⟨fun f => ?_, fun f => ?_⟩
  · exact RI.mk (mst hM ⟨fun _ => ⟨fun _ => ⟨fun q => absurd q e, fun _ => ⟨fun _ => RI.mk ⟨rfl, hB⟩, fun q => absurd f q⟩⟩, fun q => absurd d0 q⟩, fun q => absurd c0 q⟩)
  have hd : DdOk (dn S.2.2.1) (1, i, j) := ⟨show 1 < 5 by decide, hi, hj, fun q => absurd (show 1 = 0 from q) (by decide), fun q => absurd (show 2 ≤ 1 from q) (by decide), fun _ => hij⟩
  have hk' : SOk (sL S (dL S.2.2.1 ++ [(1, i, j)])) := hk.sL (hk.2.2.1.2.2.2.app (by omega) hd)
  refine c_act (d := (1, i, j)) hk hC hd (by omega) fun M1 hC1 e1 => RV.mk (RI.mk (mst (hM.oth e1) ⟨fun _ => ⟨fun _ => ⟨fun q => absurd q e, fun _ => ⟨fun q => absurd q f, fun _ => ?_⟩⟩, fun q => absurd d0 q⟩, fun q => absurd c0 q⟩))
  exact m_does (d := (1, i, j)) hk (hM.oth e1) hd (by omega) fun M2 hM2 e2 => RV.mk (RI.mk ⟨rfl, Bo.mk hk' (hC1.oth hk' e2) hM2⟩)
theorem dd1 {w i : Nat} (hw : 2 ≤ w) (hw5 : w < 5) (hi : i < n) : DdOk n (w, i, i) := ⟨hw5, hi, hi, fun q => by simp only [] at q; omega, fun _ => rfl, fun q => by simp only [] at q; omega⟩
theorem c_act1 (hk : SOk S) (hC : RC S M) {w i : Nat} (hw : 2 ≤ w) (hw5 : w < 5) (hi : i < dn S.2.2.1) (hlen : (dL S.2.2.1).length < 40) (h : ∀ M', SOk (sL S (dL S.2.2.1 ++ [(w, i, i)])) → RC (sL S (dL S.2.2.1 ++ [(w, i, i)])) M' → EqC M M' → Q (some (.int (nI (pop (sIn (sL S (dL S.2.2.1 ++ [(w, i, i)])).2.2.1 0))))) M') :
    C_X3_act G (nI w) (nI i) (nI i) M (RV (fun M10 => (WpM G 2 Y_X3_howManyInside [.ref (ad G 12)] M10 (RI (fun r12 M11 => Q (some (.int r12)) M11))))) := by
  have hk' : SOk (sL S (dL S.2.2.1 ++ [(w, i, i)])) := hk.sL (hk.2.2.1.2.2.2.app hlen (dd1 hw hw5 hi))
  exact c_act (d := (w, i, i)) hk hC (dd1 hw hw5 hi) hlen fun M1 hC1 e1 => RV.mk (many_in hk'.2.2.1 hC1.2.2.1 (RI.mk (h M1 hk' hC1 e1)))
theorem m_act1 (hk : SOk S) (hM : RM S M) {w i : Nat} (hw : 2 ≤ w) (hw5 : w < 5) (hi : i < dn S.2.2.1) (hlen : (dL S.2.2.1).length < 40) (h : ∀ M', RM (sL S (dL S.2.2.1 ++ [(w, i, i)])) M' → EqM M M' → Q (some (.int (nI (pop (sIn (sL S (dL S.2.2.1 ++ [(w, i, i)])).2.2.1 0))))) M') :
    WpM G 2 Y_X11_does [.ref (ad G 71), .int (nI (w - 1)), .int (nI i), .int 0] M (RV (fun M9 => (WpM G 2 Y_X11_inDrawer [.ref (ad G 71)] M9 (RI (fun r11 M10 => Q (some (.int r11)) M10))))) := by
  have hk' : SOk (sL S (dL S.2.2.1 ++ [(w, i, i)])) := hk.sL (hk.2.2.1.2.2.2.app hlen (dd1 hw hw5 hi))
  have h1 : mwh (w, i, i) = w - 1 := by unfold mwh; simp only []; rw [if_neg (by omega)]
  have h2 : mwb (w, i, i) = 0 := by unfold mwb; simp only []; rw [if_neg (by omega)]
  have := m_does (G := G) (Q := RV (fun M9 => (WpM G 2 Y_X11_inDrawer [.ref (ad G 71)] M9 (RI (fun r11 M10 => Q (some (.int r11)) M10))))) (d := (w, i, i)) hk hM (dd1 hw hw5 hi) hlen fun M1 hM1 e1 => RV.mk (m_many_in hk'.2.2.1 hM1.2.2.1 (RI.mk (h M1 hM1 e1)))
  rw [h1, h2] at this
  exact this
/-- promise 16 -/
theorem law_lose (hB : Bo M) (x : Int32) : C_X10_lose G x M (RI fun r M1 => C_X11_lose G x M1 (RI fun r2 M2 => r = r2 ∧ Bo M2)) := by
  obtain ⟨S, hk, hC, hM⟩ := id hB
  have h8 := hk.2.2.1.1
  have h40 := hk.2.2.1.2.2.2.1
  rcases ix3 x (n := dn S.2.2.1) (by omega) with hx | ⟨i, hi, rfl⟩
  · exact v_X10_lose (has_n hC.nz hx (RI.mk (br_t rfl (RI.mk (v_X11_lose (isG_n hM.nz h8 hx (RI.mk (br_t rfl (RI.mk ⟨rfl, hB⟩)))))))))
  have ok1 := glD_ok hk.2.2.1 hi
  have mst : ∀ {Q2 : Option Value → Mem → Prop} {M1 : Mem}, RM S M1 → ((whO (dL S.2.2.1) i = 0 → (gK (glD S.2.2.1 i) = 3 → Q2 (some (.int (-4))) M1) ∧ (gK (glD S.2.2.1 i) ≠ 3 → ((dL S.2.2.1).length = 40 → Q2 (some (.int (-2))) M1) ∧ ((dL S.2.2.1).length ≠ 40 → (WpM G 2 Y_X11_does [.ref (ad G 71), .int 1, .int (nI i), .int 0] M1 (RV (fun M9 => (WpM G 2 Y_X11_inDrawer [.ref (ad G 71)] M9 (RI (fun r11 M10 => Q2 (some (.int r11)) M10))))))))) ∧ (whO (dL S.2.2.1) i ≠ 0 → Q2 (some (.int (-4))) M1)) → C_X11_lose G (nI i) M1 Q2 := by
    intro Q2 M1 hM1 hh
    refine v_X11_lose (isG_y hM1.nz h8 hi (RI.mk (br_f (by decide) ⟨vin (by omega), ?_⟩)))
    rw [ncl (by omega), hM1.wh hi, wh0, (hM1.gl hi).1, show (3 : Int32) = nI 3 from rfl, nI_eq (by have := ok1.1; omega) (by omega), hM1.nd, len40 h40]
    exact ⟨fun c => ⟨vin (by omega), hh.1 c⟩, hh.2⟩
  refine v_X10_lose (has_y hC.nz h8 hi (RI.mk (br_f (by decide) (v_X3_canBeLost (inside_ok hC.nz h8 hi (hC.wh hi) (whO_lt _ _) (RI.mk ⟨fun c => ?_, fun c => ⟨vin (by omega), ?_⟩⟩))))))
  · have c' := bu0.mp c
    exact RI.mk (br_t rfl (RI.mk (mst hM ⟨fun q => absurd q c', fun _ => RI.mk ⟨rfl, hB⟩⟩)))
  have c0 : whO (dL S.2.2.1) i = 0 := Classical.byContradiction fun q => c (bu0.mpr q)
  rw [ncl (by omega), (hC.gl hi).1, show (3 : Int32) = nI 3 from rfl, nI_eq (by have := ok1.1; omega) (by omega)]
  refine ⟨fun d => RI.mk (br_t rfl (RI.mk (mst hM ⟨fun _ => ⟨fun _ => RI.mk ⟨rfl, hB⟩, fun q => absurd d q⟩, fun q => absurd c0 q⟩))), fun d => RI.mk (br_f (by decide) (left_ok hC.nd h40 (RI.mk ?_)))⟩
  rw [left1 h40]
  refine ⟨fun f => RI.mk (mst hM ⟨fun _ => ⟨fun q => absurd q d, fun _ => ⟨fun _ => RI.mk ⟨rfl, hB⟩, fun q => absurd f q⟩⟩, fun q => absurd c0 q⟩), fun f => ?_⟩
  refine c_act1 (w := 2) hk hC (by omega) (by omega) hi (by omega) fun M1 hk' hC1 e1 => RI.mk (mst (hM.oth e1) ⟨fun _ => ⟨fun q => absurd q d, fun _ => ⟨fun q => absurd q f, fun _ => ?_⟩⟩, fun q => absurd c0 q⟩)
  exact m_act1 (w := 2) hk (hM.oth e1) (by omega) (by omega) hi (by omega) fun M2 hM2 e2 => RI.mk ⟨rfl, Bo.mk hk' (hC1.oth hk' e2) hM2⟩
/-- promise 17 -/
theorem law_back (hB : Bo M) (x : Int32) : C_X10_back G x M (RI fun r M1 => C_X11_back G x M1 (RI fun r2 M2 => r = r2 ∧ Bo M2)) := by
  obtain ⟨S, hk, hC, hM⟩ := id hB
  have h8 := hk.2.2.1.1
  have h40 := hk.2.2.1.2.2.2.1
  have hrm := hk.2.2.1.2.1
  rcases ix3 x (n := dn S.2.2.1) (by omega) with hx | ⟨i, hi, rfl⟩
  · exact v_X10_back (has_n hC.nz hx (RI.mk (br_t rfl (RI.mk (v_X11_back (isG_n hM.nz h8 hx (RI.mk (br_t rfl (RI.mk ⟨rfl, hB⟩)))))))))
  have mst : ∀ {Q2 : Option Value → Mem → Prop} {M1 : Mem}, RM S M1 → ((whO (dL S.2.2.1) i = 1 → (pop (sIn S.2.2.1 0) < drm S.2.2.1 → ((dL S.2.2.1).length = 40 → Q2 (some (.int (-2))) M1) ∧ ((dL S.2.2.1).length ≠ 40 → (WpM G 2 Y_X11_does [.ref (ad G 71), .int 2, .int (nI i), .int 0] M1 (RV (fun M9 => (WpM G 2 Y_X11_inDrawer [.ref (ad G 71)] M9 (RI (fun r11 M10 => Q2 (some (.int r11)) M10)))))))) ∧ (¬ pop (sIn S.2.2.1 0) < drm S.2.2.1 → Q2 (some (.int (-6))) M1)) ∧ (whO (dL S.2.2.1) i ≠ 1 → Q2 (some (.int (-4))) M1)) → C_X11_back G (nI i) M1 Q2 := by
    intro Q2 M1 hM1 hh
    refine v_X11_back (isG_y hM1.nz h8 hi (RI.mk (br_f (by decide) ⟨vin (by omega), ?_⟩)))
    rw [ncl (by omega), hM1.wh hi, show (1 : Int32) = nI 1 from rfl, wh_iff (by omega)]
    refine ⟨fun c => m_many_in hk.2.2.1 hM1.2.2.1 (RI.mk ?_), hh.2⟩
    rw [hM1.2.2.1.2.1, nI_ltI (by have := pop_le (sIn S.2.2.1 0); omega) (by omega), hM1.nd, len40 h40]
    exact hh.1 c
  refine v_X10_back (has_y hC.nz h8 hi (RI.mk (br_f (by decide) ⟨vin (by omega), ?_⟩)))
  rw [ncl (by omega), hC.wh hi, show (1 : Int32) = nI 1 from rfl, wh_iff (by omega)]
  refine ⟨fun c => room_ok hk.2.2.1 hC.2.2.1 (RI.mk ⟨fun d => ?_, fun d => left_ok hC.nd h40 (RI.mk ?_)⟩), fun c => RI.mk (mst hM ⟨fun q => absurd q c, fun _ => RI.mk ⟨rfl, hB⟩⟩)⟩
  · have d' : ¬ pop (sIn S.2.2.1 0) < drm S.2.2.1 := of_decide_eq_false (bI_0.mp d)
    exact RI.mk (mst hM ⟨fun _ => ⟨fun q => absurd q d', fun _ => RI.mk ⟨rfl, hB⟩⟩, fun q => absurd c q⟩)
  · have d' : pop (sIn S.2.2.1 0) < drm S.2.2.1 := of_decide_eq_true (bI_n0.mp d)
    have hl := left1 h40
    rw [show (1 : Int32) = nI 1 from rfl] at hl
    rw [hl]
    refine ⟨fun f => RI.mk (mst hM ⟨fun _ => ⟨fun _ => ⟨fun _ => RI.mk ⟨rfl, hB⟩, fun q => absurd f q⟩, fun q => absurd d' q⟩, fun q => absurd c q⟩), fun f => ?_⟩
    refine c_act1 (w := 3) hk hC (by omega) (by omega) hi (by omega) fun M1 hk' hC1 e1 => RI.mk (mst (hM.oth e1) ⟨fun _ => ⟨fun _ => ⟨fun q => absurd q f, fun _ => ?_⟩, fun q => absurd d' q⟩, fun q => absurd c q⟩)
    exact m_act1 (w := 3) hk (hM.oth e1) (by omega) (by omega) hi (by omega) fun M2 hM2 e2 => RI.mk ⟨rfl, Bo.mk hk' (hC1.oth hk' e2) hM2⟩
/-- promise 18 -/
theorem law_out (hB : Bo M) (x : Int32) : C_X10_out G x M (RI fun r M1 => C_X11_out G x M1 (RI fun r2 M2 => r = r2 ∧ Bo M2)) := by
  obtain ⟨S, hk, hC, hM⟩ := id hB
  have h8 := hk.2.2.1.1
  have h40 := hk.2.2.1.2.2.2.1
  rcases ix3 x (n := dn S.2.2.1) (by omega) with hx | ⟨i, hi, rfl⟩
  · exact v_X10_out (has_n hC.nz hx (RI.mk (br_t rfl (RI.mk (v_X11_out (isG_n hM.nz h8 hx (RI.mk (br_t rfl (RI.mk ⟨rfl, hB⟩)))))))))
  have mst : ∀ {Q2 : Option Value → Mem → Prop} {M1 : Mem}, RM S M1 → ((whO (dL S.2.2.1) i = 2 → Q2 (some (.int (-4))) M1) ∧ (whO (dL S.2.2.1) i ≠ 2 → ((dL S.2.2.1).length = 40 → Q2 (some (.int (-2))) M1) ∧ ((dL S.2.2.1).length ≠ 40 → (WpM G 2 Y_X11_does [.ref (ad G 71), .int 3, .int (nI i), .int 0] M1 (RV (fun M9 => (WpM G 2 Y_X11_inDrawer [.ref (ad G 71)] M9 (RI (fun r11 M10 => Q2 (some (.int r11)) M10))))))))) → C_X11_out G (nI i) M1 Q2 := by
    intro Q2 M1 hM1 hh
    refine v_X11_out (isG_y hM1.nz h8 hi (RI.mk (br_f (by decide) ⟨vin (by omega), ?_⟩)))
    rw [ncl (by omega), hM1.wh hi, show (2 : Int32) = nI 2 from rfl, wh_iff (by omega), hM1.nd, len40 h40]
    exact hh
  refine v_X10_out (has_y hC.nz h8 hi (RI.mk (br_f (by decide) ⟨vin (by omega), ?_⟩)))
  rw [ncl (by omega), hC.wh hi, show (2 : Int32) = nI 2 from rfl, wh_iff (by omega)]
  refine ⟨fun c => RI.mk (mst hM ⟨fun _ => RI.mk ⟨rfl, hB⟩, fun q => absurd c q⟩), fun c => left_ok hC.nd h40 (RI.mk ?_)⟩
  rw [left1 h40]
  refine ⟨fun f => RI.mk (mst hM ⟨fun q => absurd q c, fun _ => ⟨fun _ => RI.mk ⟨rfl, hB⟩, fun q => absurd f q⟩⟩), fun f => ?_⟩
  refine c_act1 (w := 4) hk hC (by omega) (by omega) hi (by omega) fun M1 hk' hC1 e1 => RI.mk (mst (hM.oth e1) ⟨fun q => absurd q c, fun _ => ⟨fun q => absurd q f, fun _ => ?_⟩⟩)
  exact m_act1 (w := 4) hk (hM.oth e1) (by omega) (by omega) hi (by omega) fun M2 hM2 e2 => RI.mk ⟨rfl, Bo.mk hk' (hC1.oth hk' e2) hM2⟩
/-! other deeds: some undone, or kept ones taken up -/
theorem c_re (hk : SOk S) (hC : RC S M) {L : List Deed} (hL : LOk (dn S.2.2.1) L) {M1 : Mem} (e1 : Eqv (fun a k => (a = 14 ∧ k = 1) ∨ a = 15) M M1) (hl : M1.1 14 1 = nI L.length) (hc : LsC 15 L M1) (h : ∀ M', RC (sL S L) M' → EqC M M' → Q none M') : C_X3_replay G M1 Q := by
  have h8 := hk.2.2.1.1
  refine replay_ok (n := dn S.2.2.1) h8 hL (by rw [e1.i (by omega)]; exact hC.nz) hl hc fun M2 e2 w2 => ?_
  have e12 : Eqv (fun a k => PW a k ∨ (a = 14 ∧ k = 1) ∨ a = 15) M M2 := (e1.mono (by omega)).tr (e2.mono fun a k q => Or.inl q)
  refine h M2 (hC.sD e12 (by unfold PW; omega) (hC.2.2.1.deeds h8 e12 (by rw [e2.i (by unfold PW; omega)]; exact hl) (hc.eqv e2 (by unfold PW; omega)) w2)) (e12.mono (by unfold PW; omega))
theorem m_re (hk : SOk S) (hM : RM S M) {L : List Deed} (hL : LOk (dn S.2.2.1) L) {M1 : Mem} (e1 : Eqv (fun a k => (a = 71 ∧ k = 27) ∨ a = 88) M M1) (hl : M1.1 71 27 = nI L.length) (hc : LsM 88 0 L M1) (h : ∀ M', RM (sL S L) M' → EqM M M' → Q none M') : C_X11_goThrough G M1 Q := by
  have h8 := hk.2.2.1.1
  refine goth_ok (n := dn S.2.2.1) h8 hL hl hc fun M2 e2 w2 => ?_
  have e12 : Eqv (fun a k => PWM a k ∨ (a = 71 ∧ k = 27) ∨ a = 88) M M2 := (e1.mono (by omega)).tr (e2.mono fun a k q => Or.inl q)
  refine h M2 (hM.sD e12 (by unfold PWM; omega) (hM.2.2.1.deeds e12 (by rw [e2.i (by unfold PWM; omega)]; exact hl) (hc.eqv e2 (by unfold PWM; omega)) w2)) (e12.mono (by unfold PWM; omega))
theorem tk_get {L : List Deed} {m j : Nat} {d : Deed} (h : (L.take m)[j]? = some d) : L[j]? = some d := by
  rw [List.getElem?_take] at h
  split at h
  · exact h
  · cases h
theorem LOk.tk {L : List Deed} (h : LOk n L) (m : Nat) : LOk n (L.take m) := ⟨by rw [List.length_take]; have := h.1; omega, fun d hd => h.2 d (List.mem_of_mem_take hd)⟩
/-- promise 19 -/
theorem law_undo (hB : Bo M) (x : Int32) : C_X10_undo G x M (RI fun r M1 => C_X11_undo G x M1 (RI fun r2 M2 => r = r2 ∧ Bo M2)) := by
  obtain ⟨S, hk, hC, hM⟩ := id hB
  have h40 := hk.2.2.1.2.2.2.1
  have fin : (x < 0 ∨ nI (dL S.2.2.1).length < x) → C_X11_undo G x M (RI fun r2 M2 => (-1 : Int32) = r2 ∧ Bo M2) := fun hx => by
    refine v_X11_undo ?_
    rw [hM.nd]
    exact m_in_n hx (RI.mk (br_t rfl (RI.mk ⟨rfl, hB⟩)))
  refine v_X10_undo ?_
  rw [hC.nd]
  refine ⟨fun c => RI.mk (fin (Or.inl c)), fun c => ⟨fun d => RI.mk (fin (Or.inr d)), fun d => ?_⟩⟩
  obtain ⟨m, hm, rfl⟩ := nI_of2 (n := (dL S.2.2.1).length) (by rw [nI_toInt (by omega)]) c (Int32.not_lt.mp d)
  rintro _ rfl
  have hll : ((dL S.2.2.1).take m).length = m := by rw [List.length_take]; omega
  have hk' : SOk (sL S ((dL S.2.2.1).take m)) := hk.sL (hk.2.2.1.2.2.2.tk m)
  refine c_re hk hC (hk.2.2.1.2.2.2.tk m) (Eqv.rf.upI (by omega)) (by rw [upI_s, hll]) (fun j d hj => ?_) fun M1 hC1 e1 => RV.mk (RI.mk ?_)
  · rw [upI_n _ _ (by omega)]; exact hC.2.2.1.2.2.2.2 j d (tk_get hj)
  have hM1 := hM.oth e1
  refine v_X11_undo ?_
  rw [hM1.nd]
  refine m_in_y c d (RI.mk (br_f (by decide) ?_))
  rintro _ rfl
  rw [hM1.nd]
  refine m_re hk hM1 (hk.2.2.1.2.2.2.tk m) (Eqv.rf.upI (by omega)) (by rw [upI_s, hll]) (fun j d hj => ?_) fun M2 hM2 e2 => RV.mk (RI.mk ⟨rfl, Bo.mk hk' (hC1.oth hk' e2) hM2⟩)
  rw [upI_n _ _ (by omega), upI_n _ _ (by omega), upI_n _ _ (by omega)]; exact hM1.2.2.1.2.2.2.2 j d (tk_get hj)
theorem rf0 {k : Nat} (h : k < 3) : rf (17 + k) 0 = 20 + k ∧ kd (17 + k) = 2 ∧ ln (20 + k) = 40 := by
  rcases (show k = 0 ∨ k = 1 ∨ k = 2 by omega) with rfl | rfl | rfl <;> exact ⟨rfl, rfl, rfl⟩
theorem blike_loop {a b A B : Nat} (ha : kd a = 2) (hb : kd b = 2) (hA : rf a 0 = A) (hB : rf b 0 = B) (lA : ln A = 40) (lB : ln B = 40) (hAB : A ≠ B) (M0 : Mem) : ∀ (k i : Nat) (M : Mem), i + k = 40 → Eqv (fun o _ => o = A) M0 M → (∀ j, j < i → M.1 A j = M0.1 B j) →
    (∀ M', Eqv (fun o _ => o = A) M0 M' → (∀ j, j < 40 → M'.1 A j = M0.1 B j) → Q none M') → P_X2_becomeLike_10 G a b (nI i) M Q := by
  intro k
  induction k with
  | zero =>
    intro i M hi e hv hQ
    have : i = 40 := by omega
    subst this
    exact v_X2_becomeLike_10 ha hb (br_f (by decide) (hQ M e hv))
  | succ k ih =>
    intro i M hi e hv hQ
    refine v_X2_becomeLike_10 ha hb ?_
    rw [hA, hB, lA, lB, ncl (by omega), nI_1]
    refine br_t (show nI i < nI 40 from nI_lt (by omega) (by omega)) ⟨vin (by omega), vin (by omega), ?_⟩
    rintro _ rfl
    rw [e.i (fun q => hAB q.symm)]
    refine ih (i + 1) _ (by omega) (e.upI rfl) (fun j hj => ?_) hQ
    by_cases c : j = i
    · subst c; rw [upI_s]
    · rw [upI_n _ _ (by omega)]; exact hv j (by omega)
theorem blike_ok {a b A B : Nat} (ha : kd a = 2) (hb : kd b = 2) (hA : rf a 0 = A) (hB : rf b 0 = B) (lA : ln A = 40) (lB : ln B = 40) (hAB : A ≠ B) (haA : a ≠ A) (haB : a ≠ B) (h : ∀ M', Eqv (fun o k => o = A ∨ (o = a ∧ k = 1)) M M' → M'.1 a 1 = M.1 b 1 → (∀ j, j < 40 → M'.1 A j = M.1 B j) → Q none M') : C_X2_becomeLike G a b M Q := by
  refine v_X2_becomeLike ha hb ?_
  rintro _ rfl
  refine blike_loop ha hb hA hB lA lB hAB _ 40 0 _ rfl Eqv.rf (fun j hj => absurd hj (Nat.not_lt_zero j)) fun M1 e1 v1 => ?_
  refine h M1 (Eqv.tr (M1 := upI M a 1 (M.1 b 1)) (Eqv.rf.upI (Or.inr ⟨rfl, rfl⟩)) (e1.mono fun _ _ q => Or.inl q)) (by rw [e1.i haA, upI_s]) fun j hj => ?_
  rw [v1 j hj, upI_n _ _ (fun q => haB q.1.symm)]
/-- promise 20 -/
theorem mkeep_loop {k : Nat} (hk3 : k < 3) (M0 : Mem) : ∀ (t i : Nat) (M : Mem), i + t = 120 → Eqv (fun a j => a = 90 ∧ 120 * k ≤ j ∧ j < 120 * k + 120) M0 M → (∀ j, j < i → M.1 90 (120 * k + j) = M0.1 88 j) →
    (∀ M', Eqv (fun a j => a = 90 ∧ 120 * k ≤ j ∧ j < 120 * k + 120) M0 M' → (∀ j, j < 120 → M'.1 90 (120 * k + j) = M0.1 88 j) → Q (some (.int (M'.1 71 27))) M') → P_X11_keep_33 G (nI k) (nI i) M Q := by
  intro t
  induction t with
  | zero =>
    intro i M hi e hv hQ
    have : i = 120 := by omega
    subst this
    exact v_X11_keep_33 (br_f (by decide) (hQ M e hv))
  | succ t ih =>
    intro i M hi e hv hQ
    refine v_X11_keep_33 ?_
    rw [show (120 : Int32) = nI 120 from rfl, pk_mul, nI_add, nI_1, ncl (by omega), ncl (by omega)]
    refine br_t (nI_lt (by omega) (by omega)) ⟨vin (by omega), vin (by omega), ?_⟩
    rintro _ rfl
    rw [e.i (by omega)]
    refine ih (i + 1) _ (by omega) (e.upI (by omega)) (fun j hj => ?_) hQ
    by_cases c : j = i
    · subst c; rw [upI_s]
    · rw [upI_n _ _ (by omega)]; exact hv j (by omega)
theorem law_keep (hB : Bo M) (x : Int32) : C_X10_keep G x M (RI fun r M1 => C_X11_keep G x M1 (RI fun r2 M2 => r = r2 ∧ Bo M2)) := by
  obtain ⟨S, hk, hC, hM⟩ := id hB
  have h8 := hk.2.2.1.1
  have h40 := hk.2.2.1.2.2.2.1
  rcases ix3 x (n := 3) (by decide) with hx | ⟨k, hk3, rfl⟩
  · have fin : C_X11_keep G x M (RI fun r2 M2 => (-1 : Int32) = r2 ∧ Bo M2) := v_X11_keep (m_in_n (hx.imp id fun q => (nlt_le (n := 2) (by decide)).mpr q) (RI.mk (br_t rfl (RI.mk ⟨rfl, hB⟩))))
    exact v_X10_keep ⟨fun _ => RI.mk fin, fun c => br_f (Int32.not_lt.mpr (hx.resolve_left c)) (RI.mk fin)⟩
  have d0 : (nI (dn S.2.2.1) = 0) = (dn S.2.2.1 = 0) := by rw [show (0 : Int32) = nI 0 from rfl, nI_eq (by omega) (by omega)]
  refine v_X10_keep (br_f (nI_pos (by omega)) (br_t (show nI k < nI 3 from nI_lt hk3 (by omega)) ?_))
  rw [hC.nz, d0]
  obtain ⟨r1, r2, r3⟩ := rf0 hk3
  refine ⟨fun c => RI.mk (v_X11_keep (m_in_y (nI_pos (by omega)) (show ¬ nI 2 < nI k from nI_nlt (by omega) (by omega)) (RI.mk (br_f (by decide) ?_)))), fun c => ⟨vin hk3, ?_⟩⟩
  · rw [hM.nz, d0]
    exact br_t c (RI.mk ⟨rfl, hB⟩)
  rw [ncl (by omega)]
  refine blike_ok (A := 20 + k) (B := 15) r2 rfl r1 rfl r3 rfl (by omega) (by omega) (by omega) fun M1 e1 v1 w1 => RV.mk ⟨vin hk3, RI.mk ?_⟩
  rw [hC.nd] at v1
  rw [v1]
  have hK : KOk (dn S.2.2.1) (fu S.2.2.2.1 k (some (dL S.2.2.1))) := fun k' hk' L hL => by
    by_cases q : k' = k
    · subst q; rw [fu_s] at hL; cases hL; exact ⟨hk.2.2.1.2.2.2, by omega⟩
    · rw [fu_n _ _ q] at hL; exact hk.2.2.2 k' hk' L hL
  have hk' : SOk (S.1, S.2.1, S.2.2.1, fu S.2.2.2.1 k (some (dL S.2.2.1)), S.2.2.2.2) := ⟨hk.1, hk.2.1, hk.2.2.1, hK⟩
  have hC1 : RC (S.1, S.2.1, S.2.2.1, fu S.2.2.2.1 k (some (dL S.2.2.1)), S.2.2.2.2) M1 := by
    refine hC.sK hk e1 (by omega) fun k' hk' => ?_
    by_cases q : k' = k
    · subst q
      rw [fu_s, v1]
      refine ⟨rfl, fun L hL => ?_⟩
      cases hL
      intro j d hj
      have := ge_of hj
      rw [w1 j (by omega)]
      exact hC.2.2.1.2.2.2.2 j d hj
    · rw [fu_n _ _ q, e1.i (by omega)]
      refine ⟨(hC.2.2.2.1 k' hk').1, fun L hL => ((hC.2.2.2.1 k' hk').2 L hL).eqv e1 (by omega)⟩
  have hM1 : RM S M1 := hM.oth (e1.mono (by omega))
  refine v_X11_keep (m_in_y (nI_pos (by omega)) (show ¬ nI 2 < nI k from nI_nlt (by omega) (by omega)) (RI.mk (br_f (by decide) ?_)))
  rw [hM1.nz, d0, hM1.nd]
  refine br_f c ⟨vin hk3, ?_⟩
  rintro _ rfl
  rw [ncl (by omega)]
  refine mkeep_loop hk3 _ 120 0 _ rfl Eqv.rf (fun j hj => absurd hj (Nat.not_lt_zero j)) fun M2 e2 v2 => RI.mk ?_
  have e12 : Eqv (fun a j => (a = 89 ∧ j = k) ∨ (a = 90 ∧ 120 * k ≤ j ∧ j < 120 * k + 120)) M1 M2 := Eqv.tr (M1 := upI M1 89 k (nI (dL S.2.2.1).length)) (Eqv.rf.upI (by omega)) (e2.mono (by omega))
  refine ⟨by rw [e12.i (by omega), hM1.nd], Bo.mk hk' (hC1.oth hk' (e12.mono (by omega))) (hM1.sK e12 (by omega) fun k' hk' => ?_)⟩
  by_cases q : k' = k
  · subst q
    rw [fu_s, e2.i (by omega), upI_s]
    refine ⟨rfl, fun L hL => ?_⟩
    cases hL
    intro j d hj
    have := ge_of hj
    have h88 := hM1.2.2.1.2.2.2.2 j d hj
    rw [show 120 * k' + 3 * j + 1 = 120 * k' + (3 * j + 1) by omega, show 120 * k' + 3 * j + 2 = 120 * k' + (3 * j + 2) by omega, v2 _ (by omega), v2 _ (by omega), v2 _ (by omega), upI_n _ _ (by omega), upI_n _ _ (by omega), upI_n _ _ (by omega)]
    rw [show 0 + 3 * j = 3 * j by omega] at h88
    exact h88
  · rw [fu_n _ _ q, e12.i (by omega)]
    refine ⟨(hM1.2.2.2.1 k' hk').1, fun L hL j d hj => ?_⟩
    have := ge_of hj
    have := (hk.2.2.2 k' hk' L hL).1.1
    rw [e12.i (by omega), e12.i (by omega), e12.i (by omega)]
    exact (hM1.2.2.2.1 k' hk').2 L hL j d hj
/-- promise 21 -/
theorem mon_loop {k : Nat} (hk3 : k < 3) (M0 : Mem) : ∀ (t i : Nat) (M : Mem), i + t = 120 → Eqv (fun a j => a = 88) M0 M → (∀ j, j < i → M.1 88 j = M0.1 90 (120 * k + j)) →
    (∀ M', Eqv (fun a j => a = 88) M0 M' → (∀ j, j < 120 → M'.1 88 j = M0.1 90 (120 * k + j)) → C_X11_goThrough G M' (RV fun M2 => Q (some (.int (M2.1 71 27))) M2)) → P_X11_on_38 G (nI k) (nI i) M Q := by
  intro t
  induction t with
  | zero =>
    intro i M hi e hv hQ
    have : i = 120 := by omega
    subst this
    exact v_X11_on_38 (br_f (by decide) (hQ M e hv))
  | succ t ih =>
    intro i M hi e hv hQ
    refine v_X11_on_38 ?_
    rw [show (120 : Int32) = nI 120 from rfl, pk_mul, nI_add, nI_1, ncl (by omega), ncl (by omega)]
    refine br_t (nI_lt (by omega) (by omega)) ⟨vin (by omega), vin (by omega), ?_⟩
    rintro _ rfl
    rw [e.i (by omega)]
    refine ih (i + 1) _ (by omega) (e.upI (by omega)) (fun j hj => ?_) hQ
    by_cases c : j = i
    · subst c; rw [upI_s]
    · rw [upI_n _ _ (by omega)]; exact hv j (by omega)
theorem law_on (hB : Bo M) (x : Int32) : C_X10_on G x M (RI fun r M1 => C_X11_on G x M1 (RI fun r2 M2 => r = r2 ∧ Bo M2)) := by
  obtain ⟨S, hk, hC, hM⟩ := id hB
  have h8 := hk.2.2.1.1
  rcases ix3 x (n := 3) (by decide) with hx | ⟨k, hk3, rfl⟩
  · have fin : C_X11_on G x M (RI fun r2 M2 => (-1 : Int32) = r2 ∧ Bo M2) := v_X11_on (m_in_n (hx.imp id fun q => (nlt_le (n := 2) (by decide)).mpr q) (RI.mk (br_t rfl (RI.mk ⟨rfl, hB⟩))))
    exact v_X10_on ⟨fun _ => RI.mk fin, fun c => br_f (Int32.not_lt.mpr (hx.resolve_left c)) (RI.mk fin)⟩
  obtain ⟨r1, r2, r3⟩ := rf0 hk3
  refine v_X10_on (br_f (nI_pos (by omega)) (br_t (show nI k < nI 3 from nI_lt hk3 (by omega)) ⟨vin hk3, ?_⟩))
  rw [ncl (by omega), (hC.2.2.2.1 k hk3).1]
  cases hn : S.2.2.2.1 k with
  | none =>
    refine br_t rfl (c_finds (f := 1) hk hC (by decide) (by decide) fun M1 hC1 e1 => RI.mk (RI.mk (v_X11_on (m_in_y (nI_pos (by omega)) (show ¬ nI 2 < nI k from nI_nlt (by omega) (by omega)) (RI.mk (br_f (by decide) ⟨vin hk3, ?_⟩))))))
    rw [ncl (by omega), ((hM.oth e1).2.2.2.1 k hk3).1, hn]
    exact br_t m1_neg (m_refuse (f := 1) (hM.oth e1) (by decide) (by decide) fun M2 hM2 e2 => RI.mk (RI.mk ⟨rfl, Bo.mk (hk.sF 1) (hC1.oth (hk.sF 1) e2) hM2⟩))
  | some L =>
    have hL := (hk.2.2.2 k hk3 L hn).1
    have h40 := hL.1
    have hk' : SOk (sL S L) := hk.sL hL
    have hlt : L.length < 2 ^ 31 := by omega
    have hl1 := (hC.2.2.2.1 k hk3).1
    rw [hn] at hl1
    have hl1' : M.1 (17 + k) 1 = nI L.length := hl1
    refine br_f (show ¬ nI L.length = -1 from nI_nm1 hlt) ⟨vin hk3, ?_⟩
    refine blike_ok (a := 14) (A := 15) (B := 20 + k) rfl r2 rfl r1 rfl r3 (by omega) (by omega) (by omega) fun M1 e1 v1 w1 => RV.mk ?_
    rw [hl1'] at v1
    refine c_re hk hC hL (e1.mono (by omega)) v1 (fun j d hj => ?_) fun M2 hC2 e2 => RV.mk (RI.mk ?_)
    · have := ge_of hj
      rw [w1 j (by omega)]
      exact (hC.2.2.2.1 k hk3).2 L hn j d hj
    have hM2 := hM.oth e2
    rw [hC2.nd]
    refine v_X11_on (m_in_y (nI_pos (by omega)) (show ¬ nI 2 < nI k from nI_nlt (by omega) (by omega)) (RI.mk (br_f (by decide) ⟨vin hk3, ?_⟩)))
    rw [ncl (by omega), (hM2.2.2.2.1 k hk3).1, hn]
    refine br_f (show ¬ nI L.length < 0 from nI_pos hlt) ⟨vin hk3, ?_⟩
    rintro _ rfl
    have e3 : Eqv (fun a k => (a = 71 ∧ k = 27) ∨ a = 88) M2 (upI M2 71 27 (oS (Option.map List.length (some L)))) := Eqv.rf.upI (by omega)
    refine mon_loop hk3 _ 120 0 _ rfl Eqv.rf (fun j hj => absurd hj (Nat.not_lt_zero j)) fun M3 e4 v3 => ?_
    refine m_re hk hM2 hL (e3.tr (e4.mono (by omega))) (by rw [e4.i (by omega), upI_s]; rfl) (fun j d hj => ?_) fun M4 hM4 e5 => RV.mk (RI.mk ⟨hM4.nd.symm, Bo.mk hk' (hC2.oth hk' e5) hM4⟩)
    have := ge_of hj
    have h90 := (hM2.2.2.2.1 k hk3).2 L hn j d hj
    rw [show 0 + 3 * j = 3 * j by omega, v3 _ (by omega), v3 _ (by omega), v3 _ (by omega), upI_n _ _ (by omega), upI_n _ _ (by omega), upI_n _ _ (by omega)]
    exact h90
end DLW
