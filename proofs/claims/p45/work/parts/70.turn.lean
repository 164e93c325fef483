/-! the law's methods of one object: low, drawer, turn -/
section LDR
variable {G : Glob} {M : Mem} {Q : Option Value → Mem → Prop} {S : St} {s : RSt}
def lw (x n : Int32) : Int32 := (x &&& 2147483647) - (x &&& 2147483647) / n * n
theorem l_low {x n : Int32} (hn : ¬ n = 0) (h : Q (some (.int (lw x n))) M) : C_L_low G x n M Q := v_L_low ⟨hn, h⟩
def dch : List Int32 := [100, 51, 32, 103, 50, 49, 55, 32, 109, 51, 48, 54, 101, 52, 48, 53, 32, 115, 55, 49, 50, 32, 108, 50, 48, 57, 32, 116, 57, 49, 52]
def dcv (k : Nat) : Int32 := dch.getD k 0
def dtx (s : RSt) : Nat → RSt
  | 0 => rBeg s 0 31 (nI 32)
  | k + 1 => rWrt (dtx s k) 0 k (dcv k)
def dfn : Nat → Nat → Int32
  | 0 => fun _ => nI 32
  | k + 1 => fu (dfn k) k (dcv k)
theorem dtx_1 : ∀ k, (dtx s k).1 0 = some 31
  | 0 => by
    show fu s.1 0 (some 31) 0 = some 31
    exact fu_s _ _ _
  | k + 1 => dtx_1 k
theorem dtx_2 : ∀ k, (dtx s k).2 0 = dfn k
  | 0 => by
    show fu s.2 0 (fun _ => nI 32) 0 = fun _ => nI 32
    exact fu_s _ _ _
  | k + 1 => by
    show fu (dtx s k).2 0 (fu ((dtx s k).2 0) k (dcv k)) 0 = _
    rw [fu_s, dtx_2 k]
    rfl
theorem dfn_b : ∀ k j, k ≤ j → dfn k j = nI 32
  | 0, j, _ => rfl
  | k + 1, j, h => by
    show fu (dfn k) k (dcv k) j = _
    rw [fu_n _ _ (by omega)]
    exact dfn_b k j (by omega)
theorem dtx_ok (h : ROk 4 60 s) : ∀ k, ROk 4 60 (dtx s k)
  | 0 => h.beg (by omega) _
  | k + 1 => dtx_ok h k
def is6 (e : Except Nat (Nat × Nat × (Nat → Gs))) : Bool := match e with
  | .ok (_, z, _) => z == 6
  | _ => false
set_option maxRecDepth 20000 in
theorem dfn_6 : is6 (rdT (dfn 31) 31) = true := by decide +kernel
theorem dfn_rd : ∃ m g, rdT (dfn 31) 31 = .ok (m, 6, g) := by
  have h := dfn_6
  cases q : rdT (dfn 31) 31 with
  | error e => rw [q] at h; cases h
  | ok y =>
    obtain ⟨m, z, g⟩ := y
    rw [q] at h
    have h2 : z = 6 := beq_iff_eq.mp h
    subst h2
    exact ⟨m, g, rfl⟩
theorem dcv_b : ∀ k, k < 31 → (dcv k).toInt8.toInt32 = dcv k := by decide
theorem SOk.sT (hk : SOk S) (hs : ROk 4 60 s) : SOk (sT S s) := ⟨hk.1, hs, hk.2.2⟩
theorem txt_s (hk : SOk S) (hC : RC S M) {x y : Int32} (hx : x = nI 0) (hy : y = nI 31) (h : ∀ M', RC (sT S (dtx S.2.1 0)) M' → Q (some (.int 31)) M') : C_X10_text G x y M Q := by
  subst hx hy
  exact v_X10_text (num_in RPk.T (by decide) (RI.mk (br_f (by decide) (br_f (by decide) (br_f (by decide) (begin_ok RPk.T hC.2.1 (by decide) (by decide) fun M1 e1 hC1 => RV.mk (h M1 (hC.sT hk e1 (by omega) hC1))))))))
theorem put_s {k : Nat} (hk31 : k < 31) (hk : SOk S) (hC : RC (sT S (dtx s k)) M) (hs : ROk 4 60 s) {x y v : Int32} (hx : x = nI 0) (hy : y = nI k) (hv : v = dcv k) (h : ∀ M', RC (sT S (dtx s (k + 1))) M' → Q (some (.int 1032)) M') : C_X10_put G x y v M Q := by
  subst hx hy hv
  have hk1 : SOk (sT S (dtx s k)) := hk.sT (dtx_ok hs k)
  have hn : (sT S (dtx s k)).2.1.1 0 = some 31 := dtx_1 k
  have eC : Eqv (fun a k => a = 51 + 0) M (upI M (51 + 0) k (dcv k).toInt8.toInt32) := Eqv.rf.upI rfl
  have hC0 : RC (sT S (dtx s (k + 1))) (upI M (51 + 0) k (dcv k).toInt8.toInt32) := by
    have h0 : RC ((sT S (dtx s k)).1, rWrt (dtx s k) 0 k (dcv k).toInt8.toInt32, (sT S (dtx s k)).2.2) (upI M (51 + 0) k (dcv k).toInt8.toInt32) := hC.sT hk1 eC (by omega) (hC.2.1.write RPk.T (by decide) k _)
    rw [dcv_b k hk31] at h0 ⊢
    exact h0
  refine v_X10_put (c_refTxt_y hk1 hC (r := 0) (by decide) hn (RI.mk (br_t rfl (holds_yes RPk.T hC.2.1 hk1.2.1 (r := 0) (by decide) hn hk31 (RI.mk (br_f (by decide) (read_ok RPk.T hC.2.1 hk1.2.1 (r := 0) (by decide) hn hk31 (RI.mk (write_ok RPk.T hC.2.1 hk1.2.1 (r := 0) (by decide) hn hk31 (RV.mk ?_))))))))))
  have e : (sT S (dtx s k)).2.1.2 0 k = nI 32 := by
    show (dtx s k).2 0 k = _
    rw [dtx_2 k]
    exact dfn_b k k (Nat.le_refl _)
  rw [e]
  exact h _ hC0
theorem drw_s (hk : SOk S) (hC : RC S M) {n m z : Nat} {g : Nat → Gs} (hn : S.2.1.1 0 = some n) (hr : rdT (S.2.1.2 0) n = .ok (m, z, g)) {x : Int32} (hx : x = nI 0) (h : ∀ M', RC (S.1, S.2.1, (z, m, g, []), (fun _ => none), S.2.2.2.2) M' → Q (some (.int (nI z))) M') : C_X10_drawer G x M Q := by
  subst hx
  refine v_X10_drawer (c_refTxt_y hk hC (r := 0) (by decide) hn (RI.mk (br_t rfl ?_)))
  refine fault_ok hC.2.1 hk.2.1 (r := 0) (by decide) hn (fun e M1 h1 h2 => ?_) (fun m' z' g' M1 h1 h2 h3 h4 h5 => RI.mk ?_)
  · rw [hr] at h1; cases h1
  rw [hr] at h1
  cases h1
  obtain ⟨g1, g2, g3⟩ := rdT_gs hr
  refine br_t rfl (fill_ok g2 h4 h3 h5 fun M2 e2 d2 => RV.mk ?_)
  have hC1 : RC S M1 := hC.scr hk h2.scC
  have hC2 : RC (S.1, S.2.1, (z, m, g, []), S.2.2.2) M2 := hC1.sD e2 (by omega) d2
  refine kept_loop (S := S) M2 3 0 M2 rfl Eqv.rf (fun j hj => absurd hj (Nat.not_lt_zero j)) fun M3 e3 k3 => ?_
  have hC3 : RC (S.1, S.2.1, (z, m, g, []), (fun _ => none), S.2.2.2.2) M3 := by
    obtain ⟨a, b, c, d, f, gg⟩ := hC2
    exact ⟨a.eqv e3 (by omega), b.eqv e3 (by omega), c.eqv g2 e3 (by omega), k3, f.eqv e3 (by omega), gg.eqv e3 (by omega)⟩
  have rz : M3.1 12 2 = nI z := hC3.2.2.1.1
  rw [rz]
  exact h M3 hC3
/-- six gloves, whatever there was -/
theorem dt_drawer (hk : SOk S) : Dt (fun G M Q => C_L_drawer G M Q) S (fun r S' => r = 1 ∧ dn S'.2.2.1 = 6) := by
  obtain ⟨m, g, hr⟩ := dfn_rd
  obtain ⟨g1, g2, g3⟩ := rdT_gs hr
  have hs := hk.2.1
  have hk2 : SOk (S.1, dtx S.2.1 31, (6, m, g, []), (fun _ => none), S.2.2.2.2) := ⟨hk.1, dtx_ok hs 31, ⟨g2, g1, g3, ⟨Nat.zero_le _, fun d hd => by cases hd⟩⟩, fun k _ L hL => by cases hL⟩
  refine ⟨1, (S.1, dtx S.2.1 31, (6, m, g, []), (fun _ => none), S.2.2.2.2), hk2, ⟨rfl, rfl⟩, fun G M Q hC h => v_L_drawer ?_⟩
  refine txt_s hk hC rfl rfl fun M0 hC0 => RI.mk (br_t rfl ?_)
  refine put_s (k := 0) (s := S.2.1) (by decide) hk hC0 hs rfl rfl rfl fun M1 hC1 => RI.mk (br_t rfl ?_)
  refine put_s (k := 1) (s := S.2.1) (by decide) hk hC1 hs rfl rfl rfl fun M2 hC2 => RI.mk (br_t rfl ?_)
  refine put_s (k := 2) (s := S.2.1) (by decide) hk hC2 hs rfl rfl rfl fun M3 hC3 => RI.mk (br_t rfl ?_)
  refine put_s (k := 3) (s := S.2.1) (by decide) hk hC3 hs rfl rfl rfl fun M4 hC4 => RI.mk (br_t rfl ?_)
  refine put_s (k := 4) (s := S.2.1) (by decide) hk hC4 hs rfl rfl rfl fun M5 hC5 => RI.mk (br_t rfl ?_)
  refine put_s (k := 5) (s := S.2.1) (by decide) hk hC5 hs rfl rfl rfl fun M6 hC6 => RI.mk (br_t rfl ?_)
  refine put_s (k := 6) (s := S.2.1) (by decide) hk hC6 hs rfl rfl rfl fun M7 hC7 => RI.mk (br_t rfl ?_)
  refine put_s (k := 7) (s := S.2.1) (by decide) hk hC7 hs rfl rfl rfl fun M8 hC8 => RI.mk (br_t rfl ?_)
  refine put_s (k := 8) (s := S.2.1) (by decide) hk hC8 hs rfl rfl rfl fun M9 hC9 => RI.mk (br_t rfl ?_)
  refine put_s (k := 9) (s := S.2.1) (by decide) hk hC9 hs rfl rfl rfl fun M10 hC10 => RI.mk (br_t rfl ?_)
  refine put_s (k := 10) (s := S.2.1) (by decide) hk hC10 hs rfl rfl rfl fun M11 hC11 => RI.mk (br_t rfl ?_)
  refine put_s (k := 11) (s := S.2.1) (by decide) hk hC11 hs rfl rfl rfl fun M12 hC12 => RI.mk (br_t rfl ?_)
  refine put_s (k := 12) (s := S.2.1) (by decide) hk hC12 hs rfl rfl rfl fun M13 hC13 => RI.mk (br_t rfl ?_)
  refine put_s (k := 13) (s := S.2.1) (by decide) hk hC13 hs rfl rfl rfl fun M14 hC14 => RI.mk (br_t rfl ?_)
  refine put_s (k := 14) (s := S.2.1) (by decide) hk hC14 hs rfl rfl rfl fun M15 hC15 => RI.mk (br_t rfl ?_)
  refine put_s (k := 15) (s := S.2.1) (by decide) hk hC15 hs rfl rfl rfl fun M16 hC16 => RI.mk (br_t rfl ?_)
  refine put_s (k := 16) (s := S.2.1) (by decide) hk hC16 hs rfl rfl rfl fun M17 hC17 => RI.mk (br_t rfl ?_)
  refine put_s (k := 17) (s := S.2.1) (by decide) hk hC17 hs rfl rfl rfl fun M18 hC18 => RI.mk (br_t rfl ?_)
  refine put_s (k := 18) (s := S.2.1) (by decide) hk hC18 hs rfl rfl rfl fun M19 hC19 => RI.mk (br_t rfl ?_)
  refine put_s (k := 19) (s := S.2.1) (by decide) hk hC19 hs rfl rfl rfl fun M20 hC20 => RI.mk (br_t rfl ?_)
  refine put_s (k := 20) (s := S.2.1) (by decide) hk hC20 hs rfl rfl rfl fun M21 hC21 => RI.mk (br_t rfl ?_)
  refine put_s (k := 21) (s := S.2.1) (by decide) hk hC21 hs rfl rfl rfl fun M22 hC22 => RI.mk (br_t rfl ?_)
  refine put_s (k := 22) (s := S.2.1) (by decide) hk hC22 hs rfl rfl rfl fun M23 hC23 => RI.mk (br_t rfl ?_)
  refine put_s (k := 23) (s := S.2.1) (by decide) hk hC23 hs rfl rfl rfl fun M24 hC24 => RI.mk (br_t rfl ?_)
  refine put_s (k := 24) (s := S.2.1) (by decide) hk hC24 hs rfl rfl rfl fun M25 hC25 => RI.mk (br_t rfl ?_)
  refine put_s (k := 25) (s := S.2.1) (by decide) hk hC25 hs rfl rfl rfl fun M26 hC26 => RI.mk (br_t rfl ?_)
  refine put_s (k := 26) (s := S.2.1) (by decide) hk hC26 hs rfl rfl rfl fun M27 hC27 => RI.mk (br_t rfl ?_)
  refine put_s (k := 27) (s := S.2.1) (by decide) hk hC27 hs rfl rfl rfl fun M28 hC28 => RI.mk (br_t rfl ?_)
  refine put_s (k := 28) (s := S.2.1) (by decide) hk hC28 hs rfl rfl rfl fun M29 hC29 => RI.mk (br_t rfl ?_)
  refine put_s (k := 29) (s := S.2.1) (by decide) hk hC29 hs rfl rfl rfl fun M30 hC30 => RI.mk (br_t rfl ?_)
  refine put_s (k := 30) (s := S.2.1) (by decide) hk hC30 hs rfl rfl rfl fun M31 hC31 => RI.mk (br_t rfl ?_)
  have hk31 : SOk (sT S (dtx S.2.1 31)) := hk.sT (dtx_ok hs 31)
  refine drw_s hk31 hC31 (n := 31) (dtx_1 31) (show rdT ((dtx S.2.1 31).2 0) 31 = _ by rw [dtx_2]; exact hr) rfl fun M32 hC32 => RI.mk (br_t rfl ?_)
  exact h M32 hC32
def Pt (S : St) : Int32 → St → Prop := fun _ S' => dn S'.2.2.1 = dn S.2.2.1 ∨ dn S'.2.2.1 = 6
theorem dt_turn (hk : SOk S) (x1 : Int32) : Dt (fun G M Q => C_L_turn G x1 M Q) S (Pt S) := by
  by_cases e0 : (x1 &&& 15) = 0
  · obtain ⟨r, S1, hk1, hp, f⟩ := dt_wear hk (lw (x1 >>> (4 &&& 31)) 6) (lw ((x1 >>> (4 &&& 31)) >>> (3 &&& 31)) 6)
    exact ⟨r, S1, hk1, Or.inl hp.pn, fun G M Q hC h => v_L_turn (br_t e0 (l_low (by decide) (RI.mk (l_low (by decide) (RI.mk (f G M _ hC fun M1 hC1 => RI.mk (h M1 hC1)))))))⟩
  by_cases e1 : (x1 &&& 15) = 1
  · obtain ⟨r, S1, hk1, hp, f⟩ := dt_wear hk (lw (x1 >>> (4 &&& 31)) 6) (lw ((x1 >>> (4 &&& 31)) >>> (3 &&& 31)) 6)
    exact ⟨r, S1, hk1, Or.inl hp.pn, fun G M Q hC h => v_L_turn (br_f e0 (br_t e1 (l_low (by decide) (RI.mk (l_low (by decide) (RI.mk (f G M _ hC fun M1 hC1 => RI.mk (h M1 hC1))))))))⟩
  by_cases e2 : (x1 &&& 15) = 2
  · obtain ⟨r, S1, hk1, hp, f⟩ := dt_lose hk (lw (x1 >>> (4 &&& 31)) 6)
    exact ⟨r, S1, hk1, Or.inl hp.pn, fun G M Q hC h => v_L_turn (br_f e0 (br_f e1 (br_t e2 (l_low (by decide) (RI.mk (f G M _ hC fun M1 hC1 => RI.mk (h M1 hC1)))))))⟩
  by_cases e3 : (x1 &&& 15) = 3
  · obtain ⟨r, S1, hk1, hp, f⟩ := dt_back hk (lw (x1 >>> (4 &&& 31)) 6)
    exact ⟨r, S1, hk1, Or.inl hp.pn, fun G M Q hC h => v_L_turn (br_f e0 (br_f e1 (br_f e2 (br_t e3 (l_low (by decide) (RI.mk (f G M _ hC fun M1 hC1 => RI.mk (h M1 hC1))))))))⟩
  by_cases e4 : (x1 &&& 15) = 4
  · by_cases c : ((x1 >>> (4 &&& 31)) &&& 3) = 0
    · obtain ⟨r, S1, hk1, hp, f⟩ := dt_out hk (lw ((x1 >>> (4 &&& 31)) >>> (2 &&& 31)) 6)
      exact ⟨r, S1, hk1, Or.inl hp.pn, fun G M Q hC h => v_L_turn (br_f e0 (br_f e1 (br_f e2 (br_f e3 (br_t e4 (br_t c (l_low (by decide) (RI.mk (f G M _ hC fun M1 hC1 => RI.mk (h M1 hC1))))))))))⟩
    · obtain ⟨r, S1, hk1, hp, f⟩ := dt_back hk (lw ((x1 >>> (4 &&& 31)) >>> (2 &&& 31)) 6)
      exact ⟨r, S1, hk1, Or.inl hp.pn, fun G M Q hC h => v_L_turn (br_f e0 (br_f e1 (br_f e2 (br_f e3 (br_t e4 (br_f c (l_low (by decide) (RI.mk (f G M _ hC fun M1 hC1 => RI.mk (h M1 hC1))))))))))⟩
  by_cases e5 : (x1 &&& 15) = 5
  · obtain ⟨r, S1, hk1, hp, f⟩ := dt_undo hk (cvl S 2 - lw (x1 >>> (4 &&& 31)) 4)
    exact ⟨r, S1, hk1, Or.inl hp, fun G M Q hC h => v_L_turn (br_f e0 (br_f e1 (br_f e2 (br_f e3 (br_f e4 (br_t e5 (c_cnt (k := 2) hk hC (by decide) (RI.mk (l_low (by decide) (RI.mk (f G M _ hC fun M1 hC1 => RI.mk (h M1 hC1))))))))))))⟩
  by_cases e6 : (x1 &&& 15) = 6
  · by_cases c : ((x1 >>> (4 &&& 31)) &&& 1) = 0
    · obtain ⟨r, S1, hk1, hp, f⟩ := dt_keep hk (((x1 >>> (4 &&& 31)) >>> (1 &&& 31)) &&& 1)
      exact ⟨r, S1, hk1, Or.inl hp, fun G M Q hC h => v_L_turn (br_f e0 (br_f e1 (br_f e2 (br_f e3 (br_f e4 (br_f e5 (br_t e6 (br_t c (f G M _ hC fun M1 hC1 => RI.mk (h M1 hC1))))))))))⟩
    · obtain ⟨r, S1, hk1, hp, f⟩ := dt_on hk (((x1 >>> (4 &&& 31)) >>> (1 &&& 31)) &&& 1)
      exact ⟨r, S1, hk1, Or.inl hp, fun G M Q hC h => v_L_turn (br_f e0 (br_f e1 (br_f e2 (br_f e3 (br_f e4 (br_f e5 (br_t e6 (br_f c (f G M _ hC fun M1 hC1 => RI.mk (h M1 hC1))))))))))⟩
  by_cases e7 : (x1 &&& 15) = 7
  · by_cases c : ((x1 >>> (4 &&& 31)) &&& 7) = 0
    · obtain ⟨r, S1, hk1, ⟨hp, hd⟩, f⟩ := dt_drawer hk
      subst hp
      exact ⟨1, S1, hk1, Or.inr hd, fun G M Q hC h => v_L_turn (br_f e0 (br_f e1 (br_f e2 (br_f e3 (br_f e4 (br_f e5 (br_f e6 (br_t e7 (br_t c (f G M _ hC fun M1 hC1 => RI.mk (br_f (by decide) (h M1 hC1))))))))))))⟩
    · obtain ⟨r, S1, hk1, hp, f⟩ := dt_row hk (((x1 >>> (4 &&& 31)) >>> (3 &&& 31)) &&& 1) (lw ((x1 >>> (4 &&& 31)) >>> (4 &&& 31)) 5)
      exact ⟨r, S1, hk1, Or.inl hp, fun G M Q hC h => v_L_turn (br_f e0 (br_f e1 (br_f e2 (br_f e3 (br_f e4 (br_f e5 (br_f e6 (br_t e7 (br_f c (l_low (by decide) (RI.mk (f G M _ hC fun M1 hC1 => RI.mk (h M1 hC1)))))))))))))⟩
  by_cases e8 : (x1 &&& 15) = 8
  · obtain ⟨r, S1, hk1, hp, f⟩ := dt_lay hk ((x1 >>> (4 &&& 31)) &&& 1) (((x1 >>> (4 &&& 31)) >>> (1 &&& 31)) &&& 3) (lw ((x1 >>> (4 &&& 31)) >>> (3 &&& 31)) 24)
    exact ⟨r, S1, hk1, Or.inl hp, fun G M Q hC h => v_L_turn (br_f e0 (br_f e1 (br_f e2 (br_f e3 (br_f e4 (br_f e5 (br_f e6 (br_f e7 (br_t e8 (l_low (by decide) (RI.mk (f G M _ hC fun M1 hC1 => RI.mk (h M1 hC1)))))))))))))⟩
  by_cases e9 : (x1 &&& 15) = 9
  · obtain ⟨r, S1, hk1, hp, f⟩ := dt_mark hk (lw (x1 >>> (4 &&& 31)) 6) ((1 : Int32) + (lw ((x1 >>> (4 &&& 31)) >>> (3 &&& 31)) 5))
    exact ⟨r, S1, hk1, Or.inl hp, fun G M Q hC h => v_L_turn (br_f e0 (br_f e1 (br_f e2 (br_f e3 (br_f e4 (br_f e5 (br_f e6 (br_f e7 (br_f e8 (br_t e9 (l_low (by decide) (RI.mk (l_low (by decide) (RI.mk (f G M _ hC fun M1 hC1 => RI.mk (h M1 hC1))))))))))))))))⟩
  by_cases e10 : (x1 &&& 15) = 10
  · by_cases c : ((x1 >>> (4 &&& 31)) &&& 1) = 0
    · obtain ⟨r, S1, hk1, hp, f⟩ := dt_good hk (lw ((x1 >>> (4 &&& 31)) >>> (1 &&& 31)) 64)
      exact ⟨r, S1, hk1, Or.inl hp, fun G M Q hC h => v_L_turn (br_f e0 (br_f e1 (br_f e2 (br_f e3 (br_f e4 (br_f e5 (br_f e6 (br_f e7 (br_f e8 (br_f e9 (br_t e10 (br_t c (l_low (by decide) (RI.mk (f G M _ hC fun M1 hC1 => RI.mk (h M1 hC1))))))))))))))))⟩
    · obtain ⟨r, S1, hk1, hp, f⟩ := dt_pairs hk (((x1 >>> (4 &&& 31)) >>> (1 &&& 31)) &&& 1)
      exact ⟨r, S1, hk1, Or.inl hp, fun G M Q hC h => v_L_turn (br_f e0 (br_f e1 (br_f e2 (br_f e3 (br_f e4 (br_f e5 (br_f e6 (br_f e7 (br_f e8 (br_f e9 (br_t e10 (br_f c (f G M _ hC fun M1 hC1 => RI.mk (h M1 hC1))))))))))))))⟩
  by_cases e11 : (x1 &&& 15) = 11
  · by_cases c : ((x1 >>> (4 &&& 31)) &&& 1) = 0
    · obtain ⟨r, S1, hk1, hp, f⟩ := dt_missed hk 
      exact ⟨r, S1, hk1, Or.inl hp, fun G M Q hC h => v_L_turn (br_f e0 (br_f e1 (br_f e2 (br_f e3 (br_f e4 (br_f e5 (br_f e6 (br_f e7 (br_f e8 (br_f e9 (br_f e10 (br_t e11 (br_t c (f G M _ hC fun M1 hC1 => RI.mk (h M1 hC1)))))))))))))))⟩
    · obtain ⟨r, S1, hk1, hp, f⟩ := dt_wished hk 
      exact ⟨r, S1, hk1, Or.inl hp, fun G M Q hC h => v_L_turn (br_f e0 (br_f e1 (br_f e2 (br_f e3 (br_f e4 (br_f e5 (br_f e6 (br_f e7 (br_f e8 (br_f e9 (br_f e10 (br_t e11 (br_f c (f G M _ hC fun M1 hC1 => RI.mk (h M1 hC1)))))))))))))))⟩
  by_cases e12 : (x1 &&& 15) = 12
  · by_cases c : ((x1 >>> (4 &&& 31)) &&& 1) = 0
    · obtain ⟨r, S1, hk1, hp, f⟩ := dt_days hk (lw ((x1 >>> (4 &&& 31)) >>> (1 &&& 31)) 3) (((x1 >>> (4 &&& 31)) >>> (3 &&& 31)) &&& 1)
      exact ⟨r, S1, hk1, Or.inl hp, fun G M Q hC h => v_L_turn (br_f e0 (br_f e1 (br_f e2 (br_f e3 (br_f e4 (br_f e5 (br_f e6 (br_f e7 (br_f e8 (br_f e9 (br_f e10 (br_f e11 (br_t e12 (br_t c (l_low (by decide) (RI.mk (f G M _ hC fun M1 hC1 => RI.mk (h M1 hC1))))))))))))))))))⟩
    · obtain ⟨r, S1, hk1, hp, f⟩ := dt_room hk 
      exact ⟨r, S1, hk1, Or.inl hp, fun G M Q hC h => v_L_turn (br_f e0 (br_f e1 (br_f e2 (br_f e3 (br_f e4 (br_f e5 (br_f e6 (br_f e7 (br_f e8 (br_f e9 (br_f e10 (br_f e11 (br_t e12 (br_f c (f G M _ hC fun M1 hC1 => RI.mk (h M1 hC1))))))))))))))))⟩
  by_cases e13 : (x1 &&& 15) = 13
  · by_cases c : ((x1 >>> (4 &&& 31)) &&& 1) = 0
    · obtain ⟨r, S1, hk1, hp, f⟩ := dt_kinds hk (lw ((x1 >>> (4 &&& 31)) >>> (1 &&& 31)) 6) (((x1 >>> (4 &&& 31)) >>> (4 &&& 31)) &&& 1)
      exact ⟨r, S1, hk1, Or.inl hp, fun G M Q hC h => v_L_turn (br_f e0 (br_f e1 (br_f e2 (br_f e3 (br_f e4 (br_f e5 (br_f e6 (br_f e7 (br_f e8 (br_f e9 (br_f e10 (br_f e11 (br_f e12 (br_t e13 (br_t c (l_low (by decide) (RI.mk (f G M _ hC fun M1 hC1 => RI.mk (h M1 hC1)))))))))))))))))))⟩
    · obtain ⟨r, S1, hk1, hp, f⟩ := dt_test hk (lw ((x1 >>> (4 &&& 31)) >>> (1 &&& 31)) 6) (((x1 >>> (4 &&& 31)) >>> (4 &&& 31)) &&& 1)
      exact ⟨r, S1, hk1, Or.inl hp, fun G M Q hC h => v_L_turn (br_f e0 (br_f e1 (br_f e2 (br_f e3 (br_f e4 (br_f e5 (br_f e6 (br_f e7 (br_f e8 (br_f e9 (br_f e10 (br_f e11 (br_f e12 (br_t e13 (br_f c (l_low (by decide) (RI.mk (f G M _ hC fun M1 hC1 => RI.mk (h M1 hC1)))))))))))))))))))⟩
  by_cases e14 : (x1 &&& 15) = 14
  · by_cases c : ((x1 >>> (4 &&& 31)) &&& 1) = 0
    · obtain ⟨r, S1, hk1, hp, f⟩ := dt_odds hk (lw ((x1 >>> (4 &&& 31)) >>> (1 &&& 31)) 5) (lw ((x1 >>> (4 &&& 31)) >>> (4 &&& 31)) 13) (lw ((x1 >>> (4 &&& 31)) >>> (8 &&& 31)) 13)
      exact ⟨r, S1, hk1, Or.inl hp, fun G M Q hC h => v_L_turn (br_f e0 (br_f e1 (br_f e2 (br_f e3 (br_f e4 (br_f e5 (br_f e6 (br_f e7 (br_f e8 (br_f e9 (br_f e10 (br_f e11 (br_f e12 (br_f e13 (br_t e14 (br_t c (l_low (by decide) (RI.mk (l_low (by decide) (RI.mk (l_low (by decide) (RI.mk (f G M _ hC fun M1 hC1 => RI.mk (h M1 hC1))))))))))))))))))))))))⟩
    · obtain ⟨r, S1, hk1, hp, f⟩ := dt_mid hk (lw ((x1 >>> (4 &&& 31)) >>> (1 &&& 31)) 13) (lw ((x1 >>> (4 &&& 31)) >>> (5 &&& 31)) 13)
      exact ⟨r, S1, hk1, Or.inl hp, fun G M Q hC h => v_L_turn (br_f e0 (br_f e1 (br_f e2 (br_f e3 (br_f e4 (br_f e5 (br_f e6 (br_f e7 (br_f e8 (br_f e9 (br_f e10 (br_f e11 (br_f e12 (br_f e13 (br_t e14 (br_f c (l_low (by decide) (RI.mk (l_low (by decide) (RI.mk (f G M _ hC fun M1 hC1 => RI.mk (h M1 hC1))))))))))))))))))))))⟩
  by_cases c : ((x1 >>> (4 &&& 31)) &&& 1) = 0
  · obtain ⟨r, S1, hk1, hp, f⟩ := dt_lots hk ((1 : Int32) + (lw ((x1 >>> (4 &&& 31)) >>> (1 &&& 31)) 3)) ((1 : Int32) + ((x1 >>> (4 &&& 31)) >>> (3 &&& 31)))
    exact ⟨r, S1, hk1, Or.inl hp, fun G M Q hC h => v_L_turn (br_f e0 (br_f e1 (br_f e2 (br_f e3 (br_f e4 (br_f e5 (br_f e6 (br_f e7 (br_f e8 (br_f e9 (br_f e10 (br_f e11 (br_f e12 (br_f e13 (br_f e14 (br_t c (l_low (by decide) (RI.mk (f G M _ hC fun M1 hC1 => RI.mk (h M1 hC1))))))))))))))))))))⟩
  · obtain ⟨r, S1, hk1, hp, f⟩ := dt_duel hk (lw ((x1 >>> (4 &&& 31)) >>> (1 &&& 31)) 4)
    exact ⟨r, S1, hk1, Or.inl hp, fun G M Q hC h => v_L_turn (br_f e0 (br_f e1 (br_f e2 (br_f e3 (br_f e4 (br_f e5 (br_f e6 (br_f e7 (br_f e8 (br_f e9 (br_f e10 (br_f e11 (br_f e12 (br_f e13 (br_f e14 (br_f c (l_low (by decide) (RI.mk (f G M _ hC fun M1 hC1 => RI.mk (h M1 hC1))))))))))))))))))))⟩
end LDR
