/-! promises 15 to 21 -/
section DLW
variable {G : Glob} {M : Mem} {Q : Option Value → Mem → Prop} {n : Nat} {S : St} {D : Dr}
/-- those that are at a place, as bits -/
def sIn (D : Dr) (w : Nat) : Nat := sb (fun i => whO (dL D) i == w) (dn D)
theorem sIn_lt (D : Dr) (h : dn D ≤ 8) (w : Nat) : sIn D w < 256 := p256 h (sb_lt _ _)
theorem set_loop (hk : DOk D) (hC : DrC D M) {w : Nat} (hw : w < 3) (h : Q (some (.int (nI (sIn D w)))) M) : ∀ (k j : Nat), j + k = dn D → P_X3_setOf_4 G (nI w) (nI (sb (fun i => whO (dL D) i == w) j)) (nI j) M Q := by
  have h8 := hk.1
  intro k
  induction k with
  | zero =>
    intro j hj
    have : j = dn D := by omega
    rw [this]
    refine v_X3_setOf_4 ?_
    rw [hC.1]
    exact br_f (nI_nlt (Nat.le_refl _) (by omega)) h
  | succ k ih =>
    intro j hj
    have hj2 : j < dn D := by omega
    have ih1 := ih (j + 1) (by omega)
    rw [show sb (fun i => whO (dL D) i == w) (j + 1) = sb (fun i => whO (dL D) i == w) j ||| (if whO (dL D) j == w then 2 ^ j else 0) from rfl] at ih1
    refine v_X3_setOf_4 ?_
    rw [hC.1, nI_1, ncl (by omega), (hC.2.2.1 j hj2).2, nI_eq (by have := whO_lt (dL D) j; omega) (by omega)]
    refine br_t (nI_lt hj2 (by omega)) ⟨vin (by omega), fun c => ?_, fun c => ?_⟩
    · rintro _ rfl
      rw [sh1_tab j (by omega), nx_or]
      rw [if_pos (beq_iff_eq.mpr c)] at ih1
      exact ih1
    · rw [if_neg (fun q => c (beq_iff_eq.mp q)), Nat.or_zero] at ih1
      exact ih1
theorem set_ok (hk : DOk D) (hC : DrC D M) {w : Nat} (hw : w < 3) (h : Q (some (.int (nI (sIn D w)))) M) : C_X3_setOf G (nI w) M Q :=
  v_X3_setOf (set_loop hk hC hw h (dn D) 0 (by omega))
theorem many_in (hk : DOk D) (hC : DrC D M) (h : Q (some (.int (nI (pop (sIn D 0))))) M) : C_X3_howManyInside G M Q :=
  v_X3_howManyInside (set_ok (w := 0) hk hC (by decide) (RI.mk (bitc_ok (sIn_lt D hk.1 0) (RI.mk h))))
theorem room_ok (hk : DOk D) (hC : DrC D M) (h : Q (some (.int (bI (decide (pop (sIn D 0) < drm D))))) M) : C_X3_hasRoom G M Q := by
  refine v_X3_hasRoom (many_in hk hC (RI.mk ?_))
  have := pop_le (sIn D 0)
  have := hk.2.1
  rw [hC.2.1, nI_ltI (by omega) (by omega)]
  refine ⟨fun c => ?_, fun c => ?_⟩
  · rw [decide_eq_true c] at h; exact h
  · rw [decide_eq_false c] at h; exact h
theorem left_ok (hz : M.1 14 1 = nI n) (hn : n ≤ 40) (h : Q (some (.int (nI (40 - n)))) M) : C_X2_roomLeft G 14 M Q := by
  refine v_X2_roomLeft rfl ?_
  rw [hz, show (40 : Int32) = nI 40 from rfl, pk_sub hn]
  exact h
theorem left1 {n : Nat} (hn : n ≤ 40) : nI (40 - n) < 1 ↔ n = 40 := by
  rw [show (1 : Int32) = nI 1 from rfl, nI_ltI (by omega) (by omega)]
  omega
theorem len40 {n : Nat} (hn : n ≤ 40) : nI n = 40 ↔ n = 40 := by rw [show (40 : Int32) = nI 40 from rfl, nI_eq (by omega) (by omega)]
theorem RC.nd (hC : RC S M) : M.1 14 1 = nI (dL S.2.2.1).length := hC.2.2.1.2.2.2.1
theorem RM.nd (hM : RM S M) : M.1 71 27 = nI (dL S.2.2.1).length := hM.2.2.1.2.2.2.1
theorem wh_iff {L : List Deed} {i w : Nat} (hw : w < 5) : nI (whO L i) = nI w ↔ whO L i = w := nI_eq (by have := whO_lt L i; omega) (by omega)
theorem wh0 {L : List Deed} {i : Nat} : nI (whO L i) = 0 ↔ whO L i = 0 := wh_iff (w := 0) (by omega)
theorem dd1 {w i : Nat} (hw : 2 ≤ w) (hw5 : w < 5) (hi : i < n) : DdOk n (w, i, i) := ⟨hw5, hi, hi, fun q => by simp only [] at q; omega, fun _ => rfl, fun q => by simp only [] at q; omega⟩
theorem c_act1 (hk : SOk S) (hC : RC S M) {w i : Nat} (hw : 2 ≤ w) (hw5 : w < 5) (hi : i < dn S.2.2.1) (hlen : (dL S.2.2.1).length < 40) (h : ∀ M', SOk (sL S (dL S.2.2.1 ++ [(w, i, i)])) → RC (sL S (dL S.2.2.1 ++ [(w, i, i)])) M' → EqC M M' → Q (some (.int (nI (pop (sIn (sL S (dL S.2.2.1 ++ [(w, i, i)])).2.2.1 0))))) M') :
    C_X3_act G (nI w) (nI i) (nI i) M (RV (fun M10 => (WpM G 2 Y_X3_howManyInside [.ref (ad G 12)] M10 (RI (fun r12 M11 => Q (some (.int r12)) M11))))) := by
  have hk' : SOk (sL S (dL S.2.2.1 ++ [(w, i, i)])) := hk.sL (hk.2.2.1.2.2.2.app hlen (dd1 hw hw5 hi))
  exact c_act (d := (w, i, i)) hk hC (dd1 hw hw5 hi) hlen fun M1 hC1 e1 => RV.mk (many_in hk'.2.2.1 hC1.2.2.1 (RI.mk (h M1 hk' hC1 e1)))
/-! other deeds: some undone, or kept ones taken up -/
theorem c_re (hk : SOk S) (hC : RC S M) {L : List Deed} (hL : LOk (dn S.2.2.1) L) {M1 : Mem} (e1 : Eqv (fun a k => (a = 14 ∧ k = 1) ∨ a = 15) M M1) (hl : M1.1 14 1 = nI L.length) (hc : LsC 15 L M1) (h : ∀ M', RC (sL S L) M' → EqC M M' → Q none M') : C_X3_replay G M1 Q := by
  have h8 := hk.2.2.1.1
  refine replay_ok (n := dn S.2.2.1) h8 hL (by rw [e1.i (by omega)]; exact hC.nz) hl hc fun M2 e2 w2 => ?_
  have e12 : Eqv (fun a k => PW a k ∨ (a = 14 ∧ k = 1) ∨ a = 15) M M2 := (e1.mono (by omega)).tr (e2.mono fun a k q => Or.inl q)
  refine h M2 (hC.sD e12 (by unfold PW; omega) (hC.2.2.1.deeds h8 e12 (by rw [e2.i (by unfold PW; omega)]; exact hl) (hc.eqv e2 (by unfold PW; omega)) w2)) (e12.mono (by unfold PW; omega))
theorem tk_get {L : List Deed} {m j : Nat} {d : Deed} (h : (L.take m)[j]? = some d) : L[j]? = some d := by
  rw [List.getElem?_take] at h
  split at h
  · exact h
  · cases h
theorem LOk.tk {L : List Deed} (h : LOk n L) (m : Nat) : LOk n (L.take m) := ⟨by rw [List.length_take]; have := h.1; omega, fun d hd => h.2 d (List.mem_of_mem_take hd)⟩
theorem rf0 {k : Nat} (h : k < 3) : rf (17 + k) 0 = 20 + k ∧ kd (17 + k) = 2 ∧ ln (20 + k) = 40 := by
  rcases (show k = 0 ∨ k = 1 ∨ k = 2 by omega) with rfl | rfl | rfl <;> exact ⟨rfl, rfl, rfl⟩
theorem blike_loop {a b A B : Nat} (ha : kd a = 2) (hb : kd b = 2) (hA : rf a 0 = A) (hB : rf b 0 = B) (lA : ln A = 40) (lB : ln B = 40) (hAB : A ≠ B) (M0 : Mem) : ∀ (k i : Nat) (M : Mem), i + k = 40 → Eqv (fun o _ => o = A) M0 M → (∀ j, j < i → M.1 A j = M0.1 B j) →
    (∀ M', Eqv (fun o _ => o = A) M0 M' → (∀ j, j < 40 → M'.1 A j = M0.1 B j) → Q none M') → P_X2_becomeLike_10 G a b (nI i) M Q := by
  intro k
  induction k with
  | zero =>
    intro i M hi e hv hQ
    have : i = 40 := by omega
    subst this
    exact v_X2_becomeLike_10 ha hb (br_f (by decide) (hQ M e hv))
  | succ k ih =>
    intro i M hi e hv hQ
    refine v_X2_becomeLike_10 ha hb ?_
    rw [hA, hB, lA, lB, ncl (by omega), nI_1]
    refine br_t (show nI i < nI 40 from nI_lt (by omega) (by omega)) ⟨vin (by omega), vin (by omega), ?_⟩
    rintro _ rfl
    rw [e.i (fun q => hAB q.symm)]
    refine ih (i + 1) _ (by omega) (e.upI rfl) (fun j hj => ?_) hQ
    by_cases c : j = i
    · subst c; rw [upI_s]
    · rw [upI_n _ _ (by omega)]; exact hv j (by omega)
theorem blike_ok {a b A B : Nat} (ha : kd a = 2) (hb : kd b = 2) (hA : rf a 0 = A) (hB : rf b 0 = B) (lA : ln A = 40) (lB : ln B = 40) (hAB : A ≠ B) (haA : a ≠ A) (haB : a ≠ B) (h : ∀ M', Eqv (fun o k => o = A ∨ (o = a ∧ k = 1)) M M' → M'.1 a 1 = M.1 b 1 → (∀ j, j < 40 → M'.1 A j = M.1 B j) → Q none M') : C_X2_becomeLike G a b M Q := by
  refine v_X2_becomeLike ha hb ?_
  rintro _ rfl
  refine blike_loop ha hb hA hB lA lB hAB _ 40 0 _ rfl Eqv.rf (fun j hj => absurd hj (Nat.not_lt_zero j)) fun M1 e1 v1 => ?_
  refine h M1 (Eqv.tr (M1 := upI M a 1 (M.1 b 1)) (Eqv.rf.upI (Or.inr ⟨rfl, rfl⟩)) (e1.mono fun _ _ q => Or.inl q)) (by rw [e1.i haA, upI_s]) fun j hj => ?_
  rw [v1 j hj, upI_n _ _ (fun q => haB q.1.symm)]
end DLW
