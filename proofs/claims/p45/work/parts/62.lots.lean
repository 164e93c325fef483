/-! promise 36: lots -/
section LOT
variable {G : Glob} {M : Mem} {Q : Option Value → Mem → Prop} {S : St} {D : Dr} {n : Nat}
theorem twJ_hd {i : Nat} : ∀ (k j : Nat) (L : List Tw) (p : Tw), L[0]? = some p → (twJ D i k j L)[0]? = some p
  | 0, j, L, p, h => h
  | k + 1, j, L, p, h => by
    refine twJ_hd k (j + 1) _ p ?_
    split
    · cases L with
      | nil => cases h
      | cons a L => exact h
    · exact h
theorem twI_hd : ∀ (k i : Nat) (L : List Tw) (p : Tw), L[0]? = some p → (twI D k i L)[0]? = some p
  | 0, i, L, p, h => h
  | k + 1, i, L, p, h => twI_hd k (i + 1) _ p (twJ_hd k (i + 1) L p h)
/-- what is done by a lot -/
def lotD (D : Dr) (y : Nat) : Deed :=
  if whO (dL D) (y / 8 % dn D) = 0 ∧ ¬ gK (glD D (y / 8 % dn D)) = 3 then (2, y / 8 % dn D, y / 8 % dn D)
  else if whO (dL D) (y / 8 % dn D) = 1 ∧ pop (sIn D 0) < drm D then (3, y / 8 % dn D, y / 8 % dn D)
  else match (twos D)[0]? with
    | none => (0, 0, 0)
    | some p => (1, p.1, p.2)
theorem lot_w {D : Dr} {y : Nat} (h1 : ¬ (whO (dL D) (y / 8 % dn D) = 0 ∧ ¬ gK (glD D (y / 8 % dn D)) = 3)) (h2 : ¬ (whO (dL D) (y / 8 % dn D) = 1 ∧ pop (sIn D 0) < drm D)) : lotD D y = match (twos D)[0]? with
    | none => (0, 0, 0)
    | some p => (1, p.1, p.2) := by
  unfold lotD
  rw [if_neg h1, if_neg h2]
theorem dd0 (hn : 0 < n) : DdOk n (0, 0, 0) := ⟨by show 0 < 5; decide, hn, hn, fun _ => ⟨rfl, rfl⟩, fun q => absurd (show 2 ≤ 0 from q) (by decide), fun q => absurd (show 0 = 1 from q) (by decide)⟩
theorem ddw {i j : Nat} (hi : i < n) (hj : j < n) (hij : i ≠ j) : DdOk n (1, i, j) := ⟨show 1 < 5 by decide, hi, hj, fun q => absurd (show 1 = 0 from q) (by decide), fun q => absurd (show 2 ≤ 1 from q) (by decide), fun _ => hij⟩
theorem lot_ok (h0 : 0 < dn D) (y : Nat) : DdOk (dn D) (lotD D y) := by
  have hi : y / 8 % dn D < dn D := Nat.mod_lt _ h0
  unfold lotD
  split
  · exact dd1 (by decide) (by decide) hi
  · split
    · exact dd1 (by decide) (by decide) hi
    · cases q : (twos D)[0]? with
      | none => exact dd0 h0
      | some p =>
        have t := twos_ok D p (List.mem_of_getElem? q)
        exact ddw (by omega) t.2.1 (by omega)
theorem gw_mp {x y : Gl} : gw x y = none ↔ mp x y = false := by
  unfold gw
  cases mp x y <;> simp
theorem okT_m {i j : Nat} (hi : i < dn D) (hj : j < dn D) (h1 : whO (dL D) i = 0) (h2 : whO (dL D) j = 0) : okT D i j = mp (glD D i) (glD D j) := by
  cases q : mp (glD D i) (glD D j) with
  | false => exact okT_c (by rw [wD_in hi hj]; exact gw_mp.mpr q)
  | true => exact okT_y h1 h2 (by rw [wD_in hi hj]; exact fun z => by rw [gw_mp.mp z] at q; cases q)
theorem wf14 (hk : SOk S) (hC : RC S M) (hlen : (dL S.2.2.1).length < 40) {i : Nat} (hi : i < dn S.2.2.1) (hy : ∀ p, (twos S.2.2.1)[0]? = some p → ∀ M', RC (sL S (dL S.2.2.1 ++ [(1, p.1, p.2)])) M' → EqC M M' → Q none M') (hnx : twos S.2.2.1 = twI S.2.2.1 (dn S.2.2.1 - (i + 1)) (i + 1) [] → P_X3_wearFirstPair_2 G (nI (i + 1)) M Q) :
    ∀ (k j : Nat), j + k = dn S.2.2.1 → i < j → twos S.2.2.1 = twI S.2.2.1 (dn S.2.2.1 - (i + 1)) (i + 1) (twJ S.2.2.1 i k j []) → P_X3_wearFirstPair_14 G (nI i) (nI j) M Q := by
  have h8 := hk.2.2.1.1
  intro k
  induction k with
  | zero =>
    intro j hj hij ht
    refine v_X3_wearFirstPair_14 ?_
    rw [hC.nz, nI_1 i]
    exact br_f (nI_nlt (by omega) (by omega)) (hnx ht)
  | succ k ih =>
    intro j hj hij ht
    have hj2 : j < dn S.2.2.1 := by omega
    have skip : okT S.2.2.1 i j = false → P_X3_wearFirstPair_14 G (nI i) (nI (j + 1)) M Q := fun o => ih (j + 1) (by omega) (by omega) (by rw [twJ_n o] at ht; exact ht)
    refine v_X3_wearFirstPair_14 ?_
    rw [hC.nz, nI_1]
    refine br_t (nI_lt hj2 (by omega)) (inside_ok hC.nz h8 hi (hC.wh hi) (whO_lt _ _) (RI.mk ⟨fun c => skip (okT_a (bu0.mp c)), fun c => inside_ok hC.nz h8 hj2 (hC.wh hj2) (whO_lt _ _) (RI.mk ⟨fun d => skip (okT_b (bu0.mp d)), fun d => ⟨vin (by omega), vin (by omega), ?_⟩⟩)⟩))
    have c0 : whO (dL S.2.2.1) i = 0 := Classical.byContradiction fun q => c (bu0.mpr q)
    have d0 : whO (dL S.2.2.1) j = 0 := Classical.byContradiction fun q => d (bu0.mpr q)
    rw [ncl (by omega), ncl (by omega)]
    have om := okT_m hi hj2 c0 d0
    refine makes_ok (kd8 hk.2.2.1 hi) (kd8 hk.2.2.1 hj2) (hC.gl hi) (glD_ok hk.2.2.1 hi) (hC.gl hj2) (glD_ok hk.2.2.1 hj2) (RI.mk ⟨fun e => skip (om.trans (bI_0.mp e)), fun e => ?_⟩)
    rw [twJ_y (om.trans (bI_n0.mp e))] at ht
    have hd : (twos S.2.2.1)[0]? = some (i, j) := by
      rw [ht]
      exact twI_hd _ _ _ _ (twJ_hd _ _ _ _ rfl)
    exact c_act (d := (1, i, j)) hk hC (ddw hi hj2 (by omega)) hlen fun M1 hC1 e1 => RV.mk (hy (i, j) hd M1 hC1 e1)
theorem wf_ok (hk : SOk S) (hC : RC S M) (h0 : 0 < dn S.2.2.1) (hlen : (dL S.2.2.1).length < 40) (hy : ∀ p, (twos S.2.2.1)[0]? = some p → ∀ M', RC (sL S (dL S.2.2.1 ++ [(1, p.1, p.2)])) M' → EqC M M' → Q none M') (hn : (twos S.2.2.1)[0]? = none → ∀ M', RC (sL S (dL S.2.2.1 ++ [(0, 0, 0)])) M' → EqC M M' → Q none M') : C_X3_wearFirstPair G M Q := by
  have h8 := hk.2.2.1.1
  have lp : ∀ (k i : Nat), i + k = dn S.2.2.1 → twos S.2.2.1 = twI S.2.2.1 k i [] → P_X3_wearFirstPair_2 G (nI i) M Q := by
    intro k
    induction k with
    | zero =>
      intro i hi ht
      refine v_X3_wearFirstPair_2 ?_
      rw [hC.nz]
      refine br_f (nI_nlt (by omega) (by omega)) (c_act (d := (0, 0, 0)) hk hC (dd0 h0) hlen fun M1 hC1 e1 => RV.mk (hn (by rw [ht]; rfl) M1 hC1 e1))
    | succ k ih =>
      intro i hi ht
      have ek : dn S.2.2.1 - (i + 1) = k := by omega
      refine v_X3_wearFirstPair_2 ?_
      rw [hC.nz, nI_1]
      refine br_t (nI_lt (by omega) (by omega)) (wf14 hk hC hlen (by omega) hy (fun ht2 => ih (i + 1) (by omega) (by rw [ek] at ht2; exact ht2)) k (i + 1) (by omega) (by omega) ?_)
      rw [ek]
      exact ht
  exact v_X3_wearFirstPair (lp (dn S.2.2.1) 0 (by omega) rfl)
theorem lmod {y : Nat} (h0 : 0 < n) (hn : n ≤ 8) (hy : y < 2 ^ 60) : (lN y / 8 - lN y / 8 / (nI n).toInt64 * (nI n).toInt64).toInt32 = nI (y / 8 % n) := by
  rw [nI_l (by omega), show (8 : Int64) = lN 8 from rfl, pk_lDiv (by omega) (by decide) (by decide), pk_lRem (by omega) h0 (by omega), lN_i]
theorem abl_ok (hk : SOk S) (hC : RC S M) (h0 : 0 < dn S.2.2.1) (hlen : (dL S.2.2.1).length < 40) {y : Nat} (hy : y < 2 ^ 60) (h : ∀ M', RC (sL S (dL S.2.2.1 ++ [lotD S.2.2.1 y])) M' → EqC M M' → Q none M') : C_X3_actByLot G (lN y / 8) M Q := by
  have h8 := hk.2.2.1.1
  have hi : y / 8 % dn S.2.2.1 < dn S.2.2.1 := Nat.mod_lt _ h0
  refine v_X3_actByLot ?_
  rw [hC.nz, lmod h0 h8 hy]
  refine br_t (show nI 0 < nI (dn S.2.2.1) from nI_lt h0 (by omega)) ⟨by rw [nI_l (by omega)]; exact lne0 (by omega) h0, ?_⟩
  rintro _ rfl
  have wf : ¬ (whO (dL S.2.2.1) (y / 8 % dn S.2.2.1) = 0 ∧ ¬ gK (glD S.2.2.1 (y / 8 % dn S.2.2.1)) = 3) → ¬ (whO (dL S.2.2.1) (y / 8 % dn S.2.2.1) = 1 ∧ pop (sIn S.2.2.1 0) < drm S.2.2.1) → C_X3_wearFirstPair G M (RV fun M12 => Q none M12) := fun a b => by
    rw [lot_w a b] at h
    refine wf_ok hk hC h0 hlen (fun p hp M' c e => RV.mk ?_) (fun hp M' c e => RV.mk ?_)
    · rw [hp] at h; exact h M' c e
    · rw [hp] at h; exact h M' c e
  have ok1 := glD_ok hk.2.2.1 hi
  have tail : ¬ (whO (dL S.2.2.1) (y / 8 % dn S.2.2.1) = 0 ∧ ¬ gK (glD S.2.2.1 (y / 8 % dn S.2.2.1)) = 3) → (vp_in (nI (y / 8 % dn S.2.2.1)) 8 ∧ ((M.1 (55 + (nI (y / 8 % dn S.2.2.1)).toNatClampNeg) 5 = 1 → WpM G 3 Y_X3_hasRoom [.ref (ad G 12)] M (RI fun r10 M9 => (r10 = 0 → WpM G 4 Y_X3_wearFirstPair [.ref (ad G 12)] M9 (RV fun M12 => Q none M12)) ∧ (¬ r10 = 0 → WpM G 3 Y_X3_act [.ref (ad G 12), .int 3, .int (nI (y / 8 % dn S.2.2.1)), .int (nI (y / 8 % dn S.2.2.1))] M9 (RV fun M13 => Q none M13)))) ∧ (¬ M.1 (55 + (nI (y / 8 % dn S.2.2.1)).toNatClampNeg) 5 = 1 → WpM G 4 Y_X3_wearFirstPair [.ref (ad G 12)] M (RV fun M8 => Q none M8)))) := fun a => by
    rw [ncl (by omega), hC.wh hi, show (1 : Int32) = nI 1 from rfl, wh_iff (by decide)]
    refine ⟨vin (by omega), fun c => room_ok hk.2.2.1 hC.2.2.1 (RI.mk ⟨fun d => ?_, fun d => ?_⟩), fun c => wf a fun q => c q.1⟩
    · exact wf a fun q => of_decide_eq_false (bI_0.mp d) q.2
    · have d' : pop (sIn S.2.2.1 0) < drm S.2.2.1 := of_decide_eq_true (bI_n0.mp d)
      refine c_act (d := (3, y / 8 % dn S.2.2.1, y / 8 % dn S.2.2.1)) hk hC (dd1 (by decide) (by decide) hi) hlen fun M1 hC1 e1 => RV.mk ?_
      rw [show lotD S.2.2.1 y = (3, y / 8 % dn S.2.2.1, y / 8 % dn S.2.2.1) by unfold lotD; rw [if_neg a, if_pos ⟨c, d'⟩]] at h
      exact h M1 hC1 e1
  refine v_X3_canBeLost (inside_ok hC.nz h8 hi (hC.wh hi) (whO_lt _ _) (RI.mk ⟨fun c => ?_, fun c => ⟨vin (by omega), ?_⟩⟩))
  · exact RI.mk (br_t rfl (tail fun q => bu0.mp c q.1))
  have c0 : whO (dL S.2.2.1) (y / 8 % dn S.2.2.1) = 0 := Classical.byContradiction fun q => c (bu0.mpr q)
  rw [ncl (by omega), (hC.gl hi).1, k3 ok1.1]
  have tl := fun a => tail a
  rw [ncl (by omega)] at tl
  refine ⟨fun d => RI.mk (br_t rfl (tl fun q => q.2 d)), fun d => RI.mk (br_f (by decide) ?_)⟩
  refine c_act (d := (2, y / 8 % dn S.2.2.1, y / 8 % dn S.2.2.1)) hk hC (dd1 (by decide) (by decide) hi) hlen fun M1 hC1 e1 => RV.mk ?_
  rw [show lotD S.2.2.1 y = (2, y / 8 % dn S.2.2.1, y / 8 % dn S.2.2.1) by unfold lotD; rw [if_pos ⟨c0, d⟩]] at h
  exact h M1 hC1 e1
def stp (x : Nat) : Nat := x * 48271 % 2147483647
theorem stp_lt (x : Nat) : stp x < 2147483647 := Nat.mod_lt _ (by decide)
/-- so many lots -/
def lotN : St → Nat → Nat → St
  | S, 0, _ => S
  | S, k + 1, x => lotN (sL S (dL S.2.2.1 ++ [lotD S.2.2.1 (stp x)])) k (stp x)
theorem lotN_ok : ∀ (k : Nat) (S : St) (x : Nat), SOk S → 0 < dn S.2.2.1 → (dL S.2.2.1).length + k ≤ 40 → SOk (lotN S k x)
  | 0, S, x, h, _, _ => h
  | k + 1, S, x, h, h0, hl => lotN_ok k _ _ (h.sL (h.2.2.1.2.2.2.app (by omega) (lot_ok h0 _))) h0 (by
      show (dL S.2.2.1 ++ [lotD S.2.2.1 (stp x)]).length + k ≤ 40
      rw [List.length_append, List.length_singleton]
      omega)
theorem len1 {L : List Deed} {d : Deed} {k : Nat} (h : L.length + (k + 1) ≤ 40) : (L ++ [d]).length + k ≤ 40 := by
  rw [List.length_append, List.length_singleton]
  omega
theorem l63_loop (hn20 : n ≤ 20) : ∀ (k j : Nat) (S : St) (x : Nat) (M : Mem), j + k = n → SOk S → RC S M → 0 < dn S.2.2.1 → (dL S.2.2.1).length + k ≤ 40 → x < 2147483648 → (∀ M', RC (lotN S k x) M' → EqC M M' → Q (some (.int (nI (pop (sIn (lotN S k x).2.2.1 0))))) M') → P_X10_lots_63 G (nI n) (lN x) (nI j) M Q := by
  intro k
  induction k with
  | zero =>
    intro j S x M hj hk hC h0 hl hx h
    exact v_X10_lots_63 (br_f (nI_nlt (by omega) (by omega)) (many_in hk.2.2.1 hC.2.2.1 (RI.mk (h M hC Eqv.rf))))
  | succ k ih =>
    intro j S x M hj hk hC h0 hl hx h
    refine v_X10_lots_63 (br_t (nI_lt (by omega) (by omega)) ?_)
    rw [show (48271 : Int64) = lN 48271 from rfl, show (2147483647 : Int64) = lN 2147483647 from rfl, lN_mul, pk_lRem (by omega) (by decide) (by decide), nI_1]
    rintro _ rfl
    have sl := stp_lt x
    refine abl_ok (y := stp x) hk hC h0 (by omega) (by omega) fun M1 hC1 e1 => RV.mk ?_
    exact ih (j + 1) _ (stp x) M1 (by omega) (hk.sL (hk.2.2.1.2.2.2.app (by omega) (lot_ok h0 _))) hC1 h0 (len1 hl) (by omega) fun M2 hC2 e2 => h M2 hC2 (e1.tr e2)
end LOT
