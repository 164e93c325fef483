section DUZ
variable {G : Glob} {M : Mem} {Q : Option Value → Mem → Prop} {S : St} {D : Dr} {n ins N last w c : Nat}
theorem fv_last (hk : DOk D) (hins : ins < 2 ^ dn D) (hsub : ∀ i, (gn (dn D) c).testBit i = true → ins.testBit i = true) (hT : tkn (dn D) c = last) (hl : last = N ∨ last = pop ins) : FV D ins N c = (best D (hs (dn D) 1 c) : Int) - best D (hs (dn D) 2 c) := by
  have p2 := p2_257 hk.1
  have hw : last % 2 < 2 := Nat.mod_lt _ (by decide)
  have ok := ok_w (w := last % 2) (ok_of hsub) hw
  have e : FV D ins N c = sgn (last % 2) ((best D (hs (dn D) (1 + last % 2) c) : Int) - best D (hs (dn D) (2 - last % 2) c)) := by
    unfold FV
    rw [hT]
    rcases hl with e | e
    · rw [e, Nat.sub_self]; rfl
    · obtain ⟨f1, f2⟩ := pop_fr (by omega) ok
      rw [pop_w _ _ hw, hT] at f1
      rw [pop_z _ f2 (by omega), vl_0]
  rw [e]
  rcases (show last % 2 = 0 ∨ last % 2 = 1 by omega) with e | e <;> rw [e]
  · rfl
  · unfold sgn
    rw [if_neg (by decide)]
    show -((best D (hs (dn D) 2 c) : Int) - best D (hs (dn D) 1 c)) = _
    omega
theorem d69_loop (hk : SOk S) (M0 : Mem) (hM0 : RM S M0) (hTb : TbM S.2.2.1 (2 ^ dn S.2.2.1) M0) (hins : ins < 2 ^ dn S.2.2.1) (hlN : last ≤ N) (hl : last = N ∨ last = pop ins) (hlp : last ≤ pop ins) {T : Nat} (hT : T ≤ last) (h : ∀ M', E94 M0 M' → WI S.2.2.1 ins N last M' T (3 ^ dn S.2.2.1) → P_X11_duel_61 G (nI ins) (nI last) (nI (3 ^ dn S.2.2.1)) (nI T + (-1)) M' Q) :
    ∀ (k c : Nat) (M : Mem), c + k = 3 ^ dn S.2.2.1 → E94 M0 M → WI S.2.2.1 ins N last M T c → P_X11_duel_69 G (nI ins) (nI last) (nI (3 ^ dn S.2.2.1)) (nI T) (nI c) M Q := by
  have h8 := hk.2.2.1.1
  have p3 := p3_le h8
  have p2 := p2_257 h8
  have pin := pop_le ins
  intro k
  induction k with
  | zero =>
    intro c M hc e hW
    have : c = 3 ^ dn S.2.2.1 := by omega
    subst this
    exact v_X11_duel_69 (br_f (nI_nlt (Nat.le_refl _) (by omega)) (h M e hW))
  | succ k ih =>
    intro c M hc e hW
    have hM : RM S M := hM0.scr (e.mono (by unfold scrM; omega))
    have hz := hM.nz
    have hT1 : TbM S.2.2.1 (2 ^ dn S.2.2.1) M := fun m hm => by rw [e.i (by omega), e.i (by omega)]; exact hTb m hm
    have ih1 := fun M' => ih (c + 1) M' (by omega)
    have tk8 : tkn (dn S.2.2.1) c ≤ 16 := by unfold tkn; have := pop_le (hs (dn S.2.2.1) 1 c); have := pop_le (hs (dn S.2.2.1) 2 c); omega
    have g256 : gn (dn S.2.2.1) c < 256 := p256 h8 (sb_lt _ _)
    have skip : ¬ (tkn (dn S.2.2.1) c = T ∧ ∀ i, (gn (dn S.2.2.1) c).testBit i = true → ins.testBit i = true) → WI S.2.2.1 ins N last M T (c + 1) := fun q c' hc' hs' ht' => by
      rcases ht' with t1 | ⟨t1, t2⟩
      · exact hW c' hc' hs' (Or.inl t1)
      · by_cases x : c' = c
        · subst x; exact absurd ⟨t1, hs'⟩ q
        · exact hW c' hc' hs' (Or.inr ⟨t1, by omega⟩)
    have put : ∀ v, v = iI (FV S.2.2.1 ins N c) → WI S.2.2.1 ins N last (upI M 94 c v) T (c + 1) := fun v hv c' hc' hs' ht' => by
      by_cases x : c' = c
      · subst x; rw [upI_s]; exact hv
      · rw [upI_n _ _ (by omega)]
        refine hW c' hc' hs' ?_
        rcases ht' with t1 | ⟨t1, t2⟩
        · exact Or.inl t1
        · exact Or.inr ⟨t1, by omega⟩
    refine v_X11_duel_69 (br_t (nI_lt (by omega) (by omega)) ?_)
    refine hasOf_ok (w := 0) hz h8 (by decide) (by omega) (RI.mk (all_ok hz h8 (RI.mk ?_)))
    rintro _ rfl
    rw [nx_nd, gn_is, nI_1]
    refine many_ok g256 (RI.mk ?_)
    rw [tkn_is h8, nI_eq (by omega) (by omega), nx_nd, show (0 : Int32) = nI 0 from rfl, nI_eq (by have : nd (gn (dn S.2.2.1) c) ins < 2 ^ 8 := Nat.xor_lt_two_pow g256 (Nat.lt_of_le_of_lt Nat.and_le_left g256); omega) (by omega), nd_0]
    refine ⟨fun ht => ⟨fun hsub => ?_, fun hsub => ih1 M e (skip fun q => hsub q.2)⟩, fun ht => ih1 M e (skip fun q => ht q.1)⟩
    rw [nI_eq (by omega) (by omega)]
    refine ⟨fun c1 => ?_, fun c1 => ?_⟩
    · refine hasOf_ok (w := 1) hz h8 (by decide) (by omega) (RI.mk ⟨vin (hs_lt h8 _ _), hasOf_ok (w := 2) hz h8 (by decide) (by omega) (RI.mk ⟨vin (hs_lt h8 _ _), vin (by omega), ?_⟩)⟩)
      rw [ncl (n := hs (dn S.2.2.1) 1 c) (by have := hs_lt h8 1 c; omega), ncl (n := hs (dn S.2.2.1) 2 c) (by have := hs_lt h8 2 c; omega), ncl (n := c) (by omega), (hT1 _ (hs_ln _ 1 c)).1, (hT1 _ (hs_ln _ 2 c)).1, iI_sub]
      rintro _ rfl
      refine ih1 _ (e.upI rfl) (put _ ?_)
      rw [fv_last hk.2.2.1 hins hsub (by omega) hl]
    · have hw : T % 2 < 2 := Nat.mod_lt _ (by decide)
      have ok := ok_w (w := T % 2) (ok_of hsub) hw
      obtain ⟨f1, f2⟩ := pop_fr (by omega) ok
      rw [pop_w _ _ hw, ht] at f1
      have fs : ins &&& hs (dn S.2.2.1) 0 c = fr ins (hs (dn S.2.2.1) (1 + T % 2) c) (hs (dn S.2.2.1) (2 - T % 2) c) := by
        refine Nat.eq_of_testBit_eq fun i => ?_
        rw [fr_tb ok, Nat.testBit_and, hs_tb, hs_tb, hs_tb]
        have d3 := dig_lt c i
        by_cases hi : i < dn S.2.2.1
        · rw [decide_eq_true hi]
          rcases (show T % 2 = 0 ∨ T % 2 = 1 by omega) with q | q <;> rcases (show dig c i = 0 ∨ dig c i = 1 ∨ dig c i = 2 by omega) with q2 | q2 | q2 <;> rw [q, q2] <;> cases ins.testBit i <;> rfl
        · rw [tb_hi hins (by omega)]
          rfl
      rw [nx_and, fs, show (2 : Int32) = nI 2 from rfl, pk_rem (by omega) (by decide) (by decide)]
      have hf0 : ¬ fr ins (hs (dn S.2.2.1) (1 + T % 2) c) (hs (dn S.2.2.1) (2 - T % 2) c) = 0 := fun q => by
        rw [q, show pop 0 = 0 from rfl] at f1
        omega
      have hW0 : WI S.2.2.1 ins N last M T 0 := fun c' hc' hs' ht' => hW c' hc' hs' (by omega)
      refine v_X11_bestTurn (bt_loop (t := N - T - 1) hk.2.2.1 hz hins (by omega) hsub ht (by omega) (by omega) hW0 hf0 (RI.mk ⟨vin (by omega), ?_⟩) (dn S.2.2.1) 0 0 0 (by omega) (Or.inl ⟨rfl, rfl, rfl⟩))
      rw [ncl (by omega)]
      rintro _ rfl
      exact ih1 _ (e.upI rfl) (put _ rfl)
theorem d61_loop (hk : SOk S) (M0 : Mem) (hM0 : RM S M0) (hTb : TbM S.2.2.1 (2 ^ dn S.2.2.1) M0) (hins : ins < 2 ^ dn S.2.2.1) (hlN : last ≤ N) (hl : last = N ∨ last = pop ins) (hlp : last ≤ pop ins) (h : ∀ M', E94 M0 M' → Q (some (.int (iI (vl S.2.2.1 N 0 0 ins) + 100))) M') :
    ∀ (T : Nat) (M : Mem), T ≤ last → E94 M0 M → WI S.2.2.1 ins N last M T 0 → P_X11_duel_61 G (nI ins) (nI last) (nI (3 ^ dn S.2.2.1)) (nI T) M Q := by
  have pin := pop_le ins
  intro T
  induction T with
  | zero =>
    intro M hT e hW
    refine v_X11_duel_61 (br_f (nI_pos (by omega)) (d69_loop hk M0 hM0 hTb hins hlN hl hlp hT (fun M' e' hW' => v_X11_duel_61 (br_t (by decide) ⟨vin (n := 0) (by decide), ?_⟩)) _ 0 M (Nat.zero_add _) e hW))
    have z : ∀ i, dig 0 i = 0 := fun i => by unfold dig; rw [Nat.zero_div]
    have hz : ∀ w, 0 < w → hs (dn S.2.2.1) w 0 = 0 := fun w hw => Nat.eq_of_testBit_eq fun i => by
      rw [hs_tb, z, beq_eq_false_iff_ne.mpr (show 0 ≠ w by omega), Bool.and_false, Nat.zero_testBit]
    have t0 : tkn (dn S.2.2.1) 0 = 0 := by
      unfold tkn
      rw [hz 1 (by decide), hz 2 (by decide)]
      rfl
    have v := hW' 0 (p3_pos _) (fun i hi => by rw [gn_tb, z] at hi; simp at hi) (Or.inr ⟨t0, p3_pos _⟩)
    have fv : FV S.2.2.1 ins N 0 = vl S.2.2.1 N 0 0 ins := by
      unfold FV
      rw [t0, hz (1 + 0 % 2) (by decide), hz (2 - 0 % 2) (by decide)]
      show vl S.2.2.1 N 0 0 (ins ^^^ 0 ^^^ 0) = _
      rw [Nat.xor_zero, Nat.xor_zero]
    rw [show (0 : Int32).toNatClampNeg = 0 from rfl, v, fv]
    exact h M' e'
  | succ T ih =>
    intro M hT e hW
    refine v_X11_duel_61 (br_f (nI_pos (by omega)) (d69_loop hk M0 hM0 hTb hins hlN hl hlp hT (fun M' e' hW' => ?_) _ 0 M (Nat.zero_add _) e hW))
    rw [nI_m1]
    refine ih M' (by omega) e' fun c' hc' hs' ht' => hW' c' hc' hs' ?_
    omega
theorem la_ok (hk : SOk S) (hC : RC S M) (hT : TbC S.2.2.1 (2 ^ dn S.2.2.1) M) (hins : ins < 2 ^ dn S.2.2.1) (hn6 : n ≤ 6) (h : ∀ M', E40 M M' → Q (some (.int (iI (vl S.2.2.1 n 0 0 ins)))) M') : C_X8_leadAfter G (nI ins) (nI n) M Q := by
  have p2 := p2_257 hk.2.2.1.1
  have f0 : fr ins 0 0 = ins := by unfold fr; rw [Nat.xor_zero, Nat.xor_zero]
  have lp : ∀ (k j : Nat) (M1 : Mem), j + k = 6561 → E40 M M1 → (∀ p, p < j → M1.1 40 p = 1000000) → P_X8_leadAfter_3 G (nI ins) (nI n) (nI j) M1 Q := by
    intro k
    induction k with
    | zero =>
      intro j M1 hj e hu
      have : j = 6561 := by omega
      subst this
      have ok00 : Okp ins 0 0 := by
        refine ⟨fun i hi => absurd hi (by simp), fun i hi => absurd hi (by simp)⟩
      have lo := lead_ok (G := G) (n := n) hk M hC hT hins hn6 n 7 0 0 M1 (RI fun r3 M2 => Q (some (.int r3)) M2) (by omega) (by rw [show pop 0 = 0 from rfl]; omega) ok00 e (fun m o hmo => Or.inl (hu _ (wy_lt hmo.1 (sub_lt (k := 8) (Nat.lt_of_lt_of_le hins p2) fun i q => hmo.2 i (Or.inl q)) (sub_lt (k := 8) (Nat.lt_of_lt_of_le hins p2) fun i q => hmo.2 i (Or.inr q))))) (fun M' e' _ => by rw [f0]; exact RI.mk (h M' e'))
      rw [f0] at lo
      exact v_X8_leadAfter_3 (br_f (show ¬ nI 6561 < nI 6561 from nI_nlt (Nat.le_refl _) (by decide)) lo)
    | succ k ih =>
      intro j M1 hj e hu
      refine v_X8_leadAfter_3 (br_t (show nI j < nI 6561 from nI_lt (by omega) (by decide)) ⟨vin (by omega), ?_⟩)
      rw [ncl (by omega), nI_1]
      rintro _ rfl
      refine ih (j + 1) _ (by omega) (e.upI rfl) fun p hp => ?_
      by_cases c : p = j
      · subst c; rw [upI_s]
      · rw [upI_n _ _ (by omega)]; exact hu p (by omega)
  exact v_X8_leadAfter (lp 6561 0 M (by omega) Eqv.rf (fun p hp => absurd hp (Nat.not_lt_zero p)))
/-- promise 33 -/
theorem law_duel (hB : Bo M) (x : Int32) : C_X10_duel G x M (RI fun r M1 => C_X11_duel G x M1 (RI fun r2 M2 => r = r2 ∧ Bo M2)) := by
  obtain ⟨S, hk, hC, hM⟩ := id hB
  have h8 := hk.2.2.1.1
  have p2 := p2_257 h8
  rcases ix3 x (n := 7) (by decide) with hx | ⟨n, hn, rfl⟩
  · have hx' : x < 0 ∨ nI 6 < x := hx.imp id fun q => (nlt_le (n := 6) (by decide)).mpr q
    refine v_X10_duel ⟨fun _ => RI.mk (v_X11_duel (m_in_n hx' (RI.mk (br_t rfl (RI.mk ⟨rfl, hB⟩))))), fun c => br_t (hx'.resolve_left c) (RI.mk (v_X11_duel (m_in_n hx' (RI.mk (br_t rfl (RI.mk ⟨rfl, hB⟩))))))⟩
  refine v_X10_duel (br_f (nI_pos (by omega)) (br_f (show ¬ nI 6 < nI n from nI_nlt (by omega) (by omega)) ?_))
  have mm : ∀ (M3 : Mem) (Q3 : Option Value → Mem → Prop), RM S M3 → ((nI (dn S.2.2.1) = 0 → Q3 (some (.int (-4 : Int32))) M3) ∧ (¬ nI (dn S.2.2.1) = 0 → C_X11_measure G M3 (RV fun M5 => WpM G 1 Y_X11_setIn [.ref (ad G 71), .int 0] M5 (RI fun r7 M6 => WpM G 1 Y_X11_manyOf [.int r7] M6 (RI fun r9 M8 => (r9 < nI n → WpM G 1 Y_X11_manyOf [.int r7] M8 (RI fun r14 M13 => WpM G 1 Y_X11_unitOf [.int (M13.1 71 20)] M13 (RI fun r16 M15 => P_X11_duel_61 G r7 r14 r16 r14 M15 Q3))) ∧ (¬ r9 < nI n → WpM G 1 Y_X11_unitOf [.int (M8.1 71 20)] M8 (RI fun r12 M11 => P_X11_duel_61 G r7 (nI n) r12 (nI n) M11 Q3))))))) → C_X11_duel G (nI n) M3 Q3 := fun M3 Q3 hM3 k => by
    refine v_X11_duel (m_in_y (nI_pos (by omega)) (show ¬ nI 6 < nI n from nI_nlt (by omega) (by omega)) (RI.mk (br_f (by decide) ?_)))
    rw [hM3.nz]
    exact k
  rw [hC.nz, dn0 h8]
  refine ⟨fun c => RI.mk (mm M _ hM (br_t (by rw [c]; rfl) (RI.mk ⟨rfl, hB⟩))), fun c => ?_⟩
  have c0 : ¬ nI (dn S.2.2.1) = 0 := by rw [dn0 h8]; exact c
  refine weigh_ok hk.2.2.1 hC.2.2.1 fun M1 e1 _ t1 => RV.mk ?_
  have hC1 := hC.wg hk e1
  have hM1 : RM S M1 := hM.oth (e1.mono (by omega))
  refine set_ok (w := 0) hk.2.2.1 hC1.2.2.1 (by decide) (RI.mk (la_ok hk hC1 t1 (sIn_n _ 0) (by omega) fun M2 e2 => RI.mk (RI.mk ?_)))
  have hC2 : RC S M2 := hC1.scr hk (e2.mono (by unfold scrC; omega))
  have hM2 : RM S M2 := hM1.oth (e2.mono (by omega))
  refine mm M2 _ hM2 (br_f c0 (measure_ok hk.2.2.1 hM2.2.2.1 fun M3 e3 t3 => RV.mk ?_))
  have hM3 := hM2.wg e3
  have pl := pop_le (sIn S.2.2.1 0)
  refine mset_ok (w := 0) hk.2.2.1 hM3.2.2.1 (by decide) (RI.mk (many_ok (sIn_lt _ h8 0) (RI.mk ?_)))
  rw [nI_ltI (by omega) (by omega), hM3.nz]
  have fin : ∀ M', E94 M3 M' → Bo M' := fun M' e4 => Bo.mk hk ((hC2.oth hk (e3.mono (by omega))).oth hk (e4.mono (by omega))) (hM3.scr (e4.mono (by unfold scrM; omega)))
  refine ⟨fun d => many_ok (sIn_lt _ h8 0) (RI.mk ?_), fun d => unit_ok (by omega) (RI.mk ?_)⟩
  · rw [hM3.nz]
    refine unit_ok (by omega) (RI.mk (d61_loop (N := n) hk M3 hM3 t3 (sIn_n _ 0) (by omega) (Or.inr rfl) (Nat.le_refl _) (fun M' e4 => RI.mk ⟨rfl, fin M' e4⟩) (pop (sIn S.2.2.1 0)) M3 (Nat.le_refl _) Eqv.rf fun c' hc' hs' ht' => ?_))
    omega
  · refine d61_loop (N := n) hk M3 hM3 t3 (sIn_n _ 0) (Nat.le_refl _) (Or.inl rfl) (by omega) (fun M' e4 => RI.mk ⟨rfl, fin M' e4⟩) n M3 (Nat.le_refl _) Eqv.rf fun c' hc' hs' ht' => ?_
    omega
end DUZ
