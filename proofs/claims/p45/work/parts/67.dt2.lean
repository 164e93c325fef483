/-! what a call of the class answers and leaves: marks, what the drawer makes, days, guesses, chances, lots -/
section DTB
variable {G : Glob} {M : Mem} {Q : Option Value → Mem → Prop} {S : St}
theorem c_markI (hk : SOk S) (hC : RC S M) {i w : Nat} (hi : i < dn S.2.2.1) (e0 : 0 < w) (hw : w < 6) (h0 : isN (gK (glD S.2.2.1 i)) w = false → ∀ M', RC (sF S 3) M' → Q (some (.int (-3))) M') (h1 : isN (gK (glD S.2.2.1 i)) w = true → w = 1 → ∀ r, r = nI (wm (glD S.2.2.1 i)) - nI (bareN (gW (glD S.2.2.1 i)) (gR (glD S.2.2.1 i))) → Q (some (.int r)) M)
    (h2 : isN (gK (glD S.2.2.1 i)) w = true → w = 2 → Q (some (.int (sm (mkF S.2.2.1 i 2) (dn S.2.2.1)))) M) (h3 : isN (gK (glD S.2.2.1 i)) w = true → w = 3 → Q (some (.int (sm (mkF S.2.2.1 i 3) (dn S.2.2.1)))) M) (h4 : isN (gK (glD S.2.2.1 i)) w = true → w = 4 → Q (some (.int (nI (6 - gR (glD S.2.2.1 i))))) M)
    (h5 : isN (gK (glD S.2.2.1 i)) w = true → w = 5 → ∀ M', RC S M' → Q (some (.int (sm (mkF S.2.2.1 i 5) (dn S.2.2.1)))) M') : C_X10_mark G (nI i) (nI w) M Q := by
  have h8 := hk.2.2.1.1
  have ok1 := glD_ok hk.2.2.1 hi
  refine v_X10_mark (has_y hC.nz h8 hi (RI.mk (br_f (by decide) (br_t (show nI 0 < nI w from nI_lt e0 (by omega)) (br_t (show nI w < nI 6 from nI_lt hw (by omega)) ⟨vin (by omega), ?_⟩)))))
  rw [ncl (by omega)]
  refine isOf_ok (kd8 hk.2.2.1 hi) (hC.gl hi) ok1 hw (RI.mk ⟨fun c => ?_, fun c => ?_⟩)
  · exact c_finds (f := 3) hk hC (by decide) (by decide) fun M1 hC1 e1 => RI.mk (h0 (bI_0.mp c) M1 hC1)
  · have c' := bI_n0.mp c
    rcases (show w = 1 ∨ w = 2 ∨ w = 3 ∨ w = 4 ∨ w = 5 by omega) with rfl | rfl | rfl | rfl | rfl
    · exact br_t rfl ⟨vin (by omega), warmth_ok (kd8 hk.2.2.1 hi) (hC.gl hi) ok1 (RI.mk ⟨vin (by omega), bare_ok (kd8 hk.2.2.1 hi) (hC.gl hi) ok1 (RI.mk (h1 c' rfl _ rfl))⟩)⟩
    · exact br_f (by decide) (br_t rfl (v_X3_matesOf (mates_loop hk hC hi (RI.mk (h2 c' rfl)) (dn S.2.2.1) 0 (by omega))))
    · exact br_f (by decide) (br_f (by decide) (br_t rfl (v_X3_sameSortAs (same_loop hk hC hi (RI.mk (h3 c' rfl)) (dn S.2.2.1) 0 (by omega)))))
    · refine br_f (by decide) (br_f (by decide) (br_f (by decide) (br_t rfl ⟨vin (by omega), ?_⟩)))
      have hr := ok1.2.2.2.2
      rw [(hC.gl hi).2.2.2.2, old_tab _ hr]
      exact h4 c' rfl
    · refine br_f (by decide) (br_f (by decide) (br_f (by decide) (br_f (by decide) (v_X5_gainOfStretch ⟨vin (by omega), ?_⟩))))
      rw [ncl (by omega)]
      refine like_ok rfl (kd8 hk.2.2.1 hi) (by omega) (hC.gl hi) (hC.wh hi) fun M1 e1 g1 _ => RV.mk ?_
      rintro M2 e2
      have v2 : Eqv (fun a _ => a = 37) M M2 := by rw [e2]; exact e1.upI rfl
      have hC2 : RC S M2 := hC.scr hk (v2.mono (by unfold scrC; omega))
      have g2 : GlAt M2 37 (2, (glD S.2.2.1 i).2) := by
        obtain ⟨a, b, c, d, f⟩ := g1
        rw [e2]
        exact ⟨upI_s _ _ _ _, by rw [upI_n _ _ (by omega)]; exact b, by rw [upI_n _ _ (by omega)]; exact c, by rw [upI_n _ _ (by omega)]; exact d, by rw [upI_n _ _ (by omega)]; exact f⟩
      exact gain_loop hk hi hC2 g2 (RI.mk (h5 c' rfl M2 hC2)) (dn S.2.2.1) 0 (by omega)
theorem dt_mark (hk : SOk S) (x y : Int32) : Dt (fun G M Q => C_X10_mark G x y M Q) S (Pn S) := by
  have h8 := hk.2.2.1.1
  rcases ix3 x (n := dn S.2.2.1) (by omega) with hx | ⟨i, hi, rfl⟩
  · exact ⟨-1, S, hk, rfl, fun G M Q hC h => v_X10_mark (has_n hC.nz hx (RI.mk (br_t rfl (h M hC))))⟩
  rcases ix3 y (n := 6) (by decide) with hy | ⟨w, hw, rfl⟩
  · refine ⟨-1, S, hk, rfl, fun G M Q hC h => v_X10_mark (has_y hC.nz h8 hi (RI.mk (br_f (by decide) ⟨fun c => ?_, fun _ => h M hC⟩)))⟩
    have : ¬ y < 6 := fun q => by
      rcases hy with h | h
      · exact absurd (Int32.lt_trans c h) (Int32.lt_irrefl)
      · exact Int32.not_le.mpr q h
    exact br_f this (h M hC)
  rcases Nat.eq_zero_or_pos w with e0 | e0
  · subst e0
    exact ⟨-1, S, hk, rfl, fun G M Q hC h => v_X10_mark (has_y hC.nz h8 hi (RI.mk (br_f (by decide) (br_f (by decide) (h M hC)))))⟩
  cases c : isN (gK (glD S.2.2.1 i)) w with
  | false => exact ⟨-3, sF S 3, hk.sF 3, rfl, fun G M Q hC h => c_markI hk hC hi e0 hw (fun _ => h) (fun q => by rw [c] at q; cases q) (fun q => by rw [c] at q; cases q) (fun q => by rw [c] at q; cases q) (fun q => by rw [c] at q; cases q) (fun q => by rw [c] at q; cases q)⟩
  | true =>
    rcases (show w = 1 ∨ w = 2 ∨ w = 3 ∨ w = 4 ∨ w = 5 by omega) with rfl | rfl | rfl | rfl | rfl
    · exact ⟨_, S, hk, rfl, fun G M Q hC h => c_markI hk hC hi e0 hw (fun q => by rw [c] at q; cases q) (fun _ _ r e => by rw [e]; exact h M hC) (fun _ q => absurd q (by decide)) (fun _ q => absurd q (by decide)) (fun _ q => absurd q (by decide)) (fun _ q => absurd q (by decide))⟩
    · exact ⟨_, S, hk, rfl, fun G M Q hC h => c_markI hk hC hi e0 hw (fun q => by rw [c] at q; cases q) (fun _ q => absurd q (by decide)) (fun _ _ => h M hC) (fun _ q => absurd q (by decide)) (fun _ q => absurd q (by decide)) (fun _ q => absurd q (by decide))⟩
    · exact ⟨_, S, hk, rfl, fun G M Q hC h => c_markI hk hC hi e0 hw (fun q => by rw [c] at q; cases q) (fun _ q => absurd q (by decide)) (fun _ q => absurd q (by decide)) (fun _ _ => h M hC) (fun _ q => absurd q (by decide)) (fun _ q => absurd q (by decide))⟩
    · exact ⟨_, S, hk, rfl, fun G M Q hC h => c_markI hk hC hi e0 hw (fun q => by rw [c] at q; cases q) (fun _ q => absurd q (by decide)) (fun _ q => absurd q (by decide)) (fun _ q => absurd q (by decide)) (fun _ _ => h M hC) (fun _ q => absurd q (by decide))⟩
    · exact ⟨_, S, hk, rfl, fun G M Q hC h => c_markI hk hC hi e0 hw (fun q => by rw [c] at q; cases q) (fun _ q => absurd q (by decide)) (fun _ q => absurd q (by decide)) (fun _ q => absurd q (by decide)) (fun _ q => absurd q (by decide)) (fun _ _ => h)⟩
theorem dt_good (hk : SOk S) (x : Int32) : Dt (fun G M Q => C_X10_good G x M Q) S (Pn S) := by
  have h8 := hk.2.2.1.1
  have hp := p2_257 h8
  rcases ix3 x (n := 2 ^ dn S.2.2.1) (by omega) with hx | ⟨m, hm, rfl⟩
  · exact ⟨-1, S, hk, rfl, fun G M Q hC h => v_X10_good (isSet_n hC.nz h8 hx (RI.mk (br_t rfl (h M hC))))⟩
  refine ⟨nI (best S.2.2.1 m), sA S (nI (most S.2.2.1 m)), hk.sA _, rfl, fun G M Q hC h => ?_⟩
  refine v_X10_good (isSet_y hC.nz h8 hm (RI.mk (br_f (by decide) (weigh_ok hk.2.2.1 hC.2.2.1 fun M1 e1 _ t1 => RV.mk ⟨vin (by omega), ?_⟩))))
  have hC1 := hC.wg hk e1
  rw [ncl (by omega), (t1 m hm).2]
  rintro _ rfl
  rw [upI_n _ _ (by omega), (t1 m hm).1]
  exact ⟨vin (by omega), h _ (hC1.asked hk (nI (most S.2.2.1 m)))⟩
theorem dt_pairs (hk : SOk S) (x : Int32) : Dt (fun G M Q => C_X10_pairs G x M Q) S (Pn S) := by
  have h8 := hk.2.2.1.1
  have hp := p2_257 h8
  have hin := sIn_n S.2.2.1 0
  rcases ix3 x (n := 6) (by omega) with hx | ⟨r, hr, rfl⟩
  · exact ⟨-1, S, hk, rfl, fun G M Q hC h => v_X10_pairs (num_out RPk.R hx (RI.mk (br_t rfl (h M hC))))⟩
  by_cases c : dn S.2.2.1 = 0
  · refine ⟨-4, S, hk, rfl, fun G M Q hC h => v_X10_pairs (num_in RPk.R hr (RI.mk (br_f (by decide) ?_)))⟩
    rw [hC.nz, dn0 h8]
    exact br_t c (h M hC)
  have hs : ROk 6 40 (rBeg S.1 r (dn S.2.2.1) 0) := hk.1.beg (by omega) _
  have hs1 : ROk 6 40 (noneR (rBeg S.1 r (dn S.2.2.1) 0) r (dn S.2.2.1)) := by intro a ha m hm; rw [noneR_1] at hm; exact hs a ha m hm
  have prt1 : ∀ (k i rest : Nat) (s : RSt), (prt S.2.2.1 r k i rest s).1 = s.1 := by
    intro k
    induction k with
    | zero => intro i rest s; rfl
    | succ k ih =>
      intro i rest s
      show (if rest.testBit i then (match mate S.2.2.1 rest i with
        | none => prt S.2.2.1 r k (i + 1) (rest ^^^ 2 ^ i) s
        | some j => prt S.2.2.1 r k (i + 1) (rest ^^^ 2 ^ i ^^^ 2 ^ j) (rWrt (rWrt s r i (nI j)) r j (nI i))) else prt S.2.2.1 r k (i + 1) rest s).1 = s.1
      split
      · split
        · exact ih _ _ _
        · rw [ih]; rfl
      · exact ih _ _ _
  have hs2 : ROk 6 40 (prt S.2.2.1 r (dn S.2.2.1) 0 (sIn S.2.2.1 0) (noneR (rBeg S.1 r (dn S.2.2.1) 0) r (dn S.2.2.1))) := by intro a ha m hm; rw [prt1] at hm; exact hs1 a ha m hm
  refine ⟨nI (best S.2.2.1 (sIn S.2.2.1 0)), sR S (prt S.2.2.1 r (dn S.2.2.1) 0 (sIn S.2.2.1 0) (noneR (rBeg S.1 r (dn S.2.2.1) 0) r (dn S.2.2.1))), hk.sR hs2, rfl, fun G M Q hC h => ?_⟩
  refine v_X10_pairs (num_in RPk.R hr (RI.mk (br_f (by decide) ?_)))
  rw [hC.nz, dn0 h8]
  refine br_f c (weigh_ok hk.2.2.1 hC.2.2.1 fun M1 e1 w1 t1 => RV.mk ?_)
  have hC1 := hC.wg hk e1
  refine v_X6_partTo ?_
  rw [hC1.nz]
  refine begin_ok RPk.R hC1.1 hr (by omega) fun M2 e2 hr2 => RV.mk ?_
  have hC2 : RC (sR S (rBeg S.1 r (dn S.2.2.1) 0)) M2 := hC1.sR hk e2 (by omega) hr2
  refine cnone_loop hk hr hs (fu_s _ _ _) (dn S.2.2.1) 0 M2 (by omega) hC2 (fun a b ha hb => by rw [e2.i (by omega)]; exact w1 a b ha hb) (fun m hm => by rw [e2.i (by omega), e2.i (by omega)]; exact t1 m hm) fun M3 hC3 w3 t3 e3 => ?_
  refine cpart_loop hk hr (dn S.2.2.1) 0 _ _ M3 (by omega) hin hs1 (by rw [noneR_1]; exact fu_s _ _ _) hC3 w3 t3 fun M4 o4 hC4 t4 e4 => RV.mk ?_
  refine set_ok (w := 0) hk.2.2.1 hC4.2.2.1 (by decide) (RI.mk ⟨vin (by omega), ?_⟩)
  rw [ncl (by omega), (t4 _ hin).1]
  exact h M4 hC4
theorem dt_missed (hk : SOk S) : Dt (fun G M Q => C_X10_missed G M Q) S (Pn S) := by
  have h8 := hk.2.2.1.1
  by_cases c : dn S.2.2.1 = 0
  · refine ⟨-4, S, hk, rfl, fun G M Q hC h => v_X10_missed ?_⟩
    rw [hC.nz, dn0 h8]
    exact br_t c (h M hC)
  cases q : sel (chC S.2.2.1 (sIn S.2.2.1 0)) (dn S.2.2.1) with
  | none =>
    refine ⟨-9, S, hk, rfl, fun G M Q hC h => v_X10_missed ?_⟩
    rw [hC.nz, dn0 h8]
    refine br_f c (weigh_ok hk.2.2.1 hC.2.2.1 fun M1 e1 _ t1 => RV.mk ?_)
    have hC1 := hC.wg hk e1
    exact set_ok (w := 0) hk.2.2.1 hC1.2.2.1 (by decide) (RI.mk (gc_ok hk hC1 t1 (sIn_lt _ h8 0) (fun _ => RI.mk (h M1 hC1)) fun b m q2 => by rw [q] at q2; cases q2))
  | some y =>
    obtain ⟨b, m⟩ := y
    refine ⟨nI b, sA S (nI m), hk.sA _, rfl, fun G M Q hC h => v_X10_missed ?_⟩
    rw [hC.nz, dn0 h8]
    refine br_f c (weigh_ok hk.2.2.1 hC.2.2.1 fun M1 e1 _ t1 => RV.mk ?_)
    have hC1 := hC.wg hk e1
    exact set_ok (w := 0) hk.2.2.1 hC1.2.2.1 (by decide) (RI.mk (gc_ok hk hC1 t1 (sIn_lt _ h8 0) (fun q2 => by rw [q] at q2; cases q2) fun b' m' q2 => by rw [q] at q2; cases q2; exact RI.mk (h _ (hC1.asked hk _))))
theorem dt_wished (hk : SOk S) : Dt (fun G M Q => C_X10_wished G M Q) S (Pn S) := by
  have h8 := hk.2.2.1.1
  have hor : sIn S.2.2.1 1 ||| sIn S.2.2.1 2 < 256 := p256 h8 (Nat.or_lt_two_pow (sIn_n _ _) (sIn_n _ _))
  by_cases c : dn S.2.2.1 = 0
  · refine ⟨-4, S, hk, rfl, fun G M Q hC h => v_X10_wished ?_⟩
    rw [hC.nz, dn0 h8]
    exact br_t c (h M hC)
  cases q : sel (chC S.2.2.1 (sIn S.2.2.1 1 ||| sIn S.2.2.1 2)) (dn S.2.2.1) with
  | none =>
    refine ⟨-9, S, hk, rfl, fun G M Q hC h => v_X10_wished ?_⟩
    rw [hC.nz, dn0 h8]
    refine br_f c (weigh_ok hk.2.2.1 hC.2.2.1 fun M1 e1 _ t1 => RV.mk ?_)
    have hC1 := hC.wg hk e1
    refine set_ok (w := 1) hk.2.2.1 hC1.2.2.1 (by decide) (RI.mk (set_ok (w := 2) hk.2.2.1 hC1.2.2.1 (by decide) (RI.mk ?_)))
    rw [nx_or]
    exact gc_ok hk hC1 t1 hor (fun _ => RI.mk (h M1 hC1)) fun b m q2 => by rw [q] at q2; cases q2
  | some y =>
    obtain ⟨b, m⟩ := y
    refine ⟨nI b, sA S (nI m), hk.sA _, rfl, fun G M Q hC h => v_X10_wished ?_⟩
    rw [hC.nz, dn0 h8]
    refine br_f c (weigh_ok hk.2.2.1 hC.2.2.1 fun M1 e1 _ t1 => RV.mk ?_)
    have hC1 := hC.wg hk e1
    refine set_ok (w := 1) hk.2.2.1 hC1.2.2.1 (by decide) (RI.mk (set_ok (w := 2) hk.2.2.1 hC1.2.2.1 (by decide) (RI.mk ?_)))
    rw [nx_or]
    exact gc_ok hk hC1 t1 hor (fun q2 => by rw [q] at q2; cases q2) fun b' m' q2 => by rw [q] at q2; cases q2; exact RI.mk (h _ (hC1.asked hk _))
theorem dt_room (hk : SOk S) : Dt (fun G M Q => C_X10_room G M Q) S (Pn S) := by
  have h8 := hk.2.2.1.1
  have hp := p2_257 h8
  have pp0 := p2_pos (dn S.2.2.1)
  by_cases c : dn S.2.2.1 = 0
  · refine ⟨-4, S, hk, rfl, fun G M Q hC h => v_X10_room ?_⟩
    rw [hC.nz, dn0 h8]
    exact br_t c (h M hC)
  refine ⟨nI (sfs S.2.2.1 (2 ^ dn S.2.2.1)), sA S (nI (worst S.2.2.1 (sfs S.2.2.1 (2 ^ dn S.2.2.1)))), hk.sA _, rfl, fun G M Q hC h => v_X10_room ?_⟩
  rw [hC.nz, dn0 h8]
  refine br_f c (weigh_ok hk.2.2.1 hC.2.2.1 fun M1 e1 _ t1 => RV.mk ?_)
  have hC1 := hC.wg hk e1
  have hl := sfs_lt (D := S.2.2.1) (2 ^ dn S.2.2.1)
  have l1 : ∀ Q, P_X6_safestSet_11 G (nI (sIn S.2.2.1 0)) 0 1 M1 Q = P_X6_safestSet_11 G (nI (sIn S.2.2.1 0)) (nI (sfs S.2.2.1 1)) (nI 1) M1 Q := fun Q => by rw [sfs_1]; rfl
  refine v_X6_safestSet (set_ok (w := 0) hk.2.2.1 hC1.2.2.1 (by decide) (RI.mk ?_))
  rw [l1]
  refine sf_loop hk hC1 t1 (RI.mk (aw_ok hk hC1 t1 (by omega) (RI.mk ?_))) (2 ^ dn S.2.2.1 - 1) 1 (by omega)
  rintro _ rfl
  exact h _ (hC1.asked hk _)
theorem dt_days (hk : SOk S) (x y : Int32) : Dt (fun G M Q => C_X10_days G x y M Q) S (Pn S) := by
  have h8 := hk.2.2.1.1
  rcases ix3 x (n := 4) (by omega) with hx | ⟨n, hn, rfl⟩
  · refine ⟨-1, S, hk, rfl, fun G M Q hC h => v_X10_days ⟨fun _ => h M hC, fun c => ⟨fun _ => h M hC, fun c2 => ?_⟩⟩⟩
    exact absurd ((nlt_le (n := 3) (by decide)).mpr (hx.resolve_left c)) c2
  have pre : ∀ {G : Glob} {M : Mem} {Q : Option Value → Mem → Prop}, _ → C_X10_days G (nI n) y M Q := fun {G M Q} k => v_X10_days (br_f (nI_pos (by omega)) (br_f (show ¬ nI 3 < nI n from nI_nlt (by omega) (by omega)) k))
  rcases ix3 y (n := 6) (by omega) with hx | ⟨r, hr, rfl⟩
  · exact ⟨-1, S, hk, rfl, fun G M Q hC h => pre (num_out RPk.R hx (RI.mk (br_t rfl (h M hC))))⟩
  by_cases c : dn S.2.2.1 = 0
  · refine ⟨-4, S, hk, rfl, fun G M Q hC h => pre (num_in RPk.R hr (RI.mk (br_f (by decide) ?_)))⟩
    rw [hC.nz, dn0 h8]
    exact br_t c (h M hC)
  by_cases z : tm S.2.2.1 = 0 ∧ 0 < n
  · refine ⟨-9, S, hk, rfl, fun G M Q hC h => pre (num_in RPk.R hr (RI.mk (br_f (by decide) ?_)))⟩
    rw [hC.nz, dn0 h8]
    refine br_f c (c_plan hk hC (by omega) hr (fun z0 z1 M1 hC1 e1 => RI.mk (h M1 hC1)) (fun hm M1 b v hs1 hC1 e1 => ?_))
    rcases hm with q | q <;> omega
  · have hm : n = 0 ∨ 0 < tm S.2.2.1 := by omega
    obtain ⟨b, v, hs, hb⟩ := sel_pos (D := S.2.2.1) hm
    refine ⟨nI v, sR S (dayR (rBeg S.1 r n 0) r (fun d => cdI S.2.2.1 (fg3 S.2.2.1 n b d)) n), hk.sR (dayR_ok (hk.1.beg (by omega) _) _ _ _), rfl, fun G M Q hC h => pre (num_in RPk.R hr (RI.mk (br_f (by decide) ?_)))⟩
    rw [hC.nz, dn0 h8]
    refine br_f c (c_plan hk hC (by omega) hr (fun z0 z1 M1 hC1 e1 => absurd ⟨z0, z1⟩ z) (fun hm M1 b' v' hs1 hC1 e1 => ?_))
    rw [hs] at hs1
    cases hs1
    exact RI.mk (h M1 hC1)
end DTB
