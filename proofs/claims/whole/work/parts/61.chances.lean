/-! promises 34, 35: the reference's, the laws -/
section CHM
variable {G : Glob} {M : Mem} {Q : Option Value → Mem → Prop} {S : St} {D : Dr} {n ins p q left : Nat}
theorem m_loss (hk : SOk S) (hM : RM S M) {i : Nat} (hi : i < dn S.2.2.1) (hp : p ≤ 12) (hq : q ≤ 12) (h : Q (some (.int (nI (lsN (glD S.2.2.1 i) p q)))) M) : C_X11_lossOf G (nI i) (nI p) (nI q) M Q := by
  have h8 := hk.2.2.1.1
  have ok := glD_ok hk.2.2.1 hi
  have g := hM.gl hi
  refine v_X11_lossOf ⟨vin (by omega), ?_⟩
  rw [ncl (by omega), g.1, k3 ok.1]
  unfold lsN at h
  refine ⟨fun c => ?_, fun c => ⟨vin (by omega), m_isOf_ok (c := 2) ok.1 (by decide) (by decide) (RI.mk ⟨fun d => ⟨vin (by omega), ?_⟩, fun d => ?_⟩)⟩⟩
  · rw [if_pos c] at h; exact h
  · rw [if_neg c, if_neg (by rw [bI_0.mp d]; decide)] at h
    rw [g.2.2.1, show (0 : Int32) = nI 0 from rfl, nI_eq (a := gH (glD S.2.2.1 i)) (by have := ok.2.2.1; omega) (by decide)]
    refine ⟨fun e => ?_, fun e => ?_⟩
    · rw [if_pos e] at h; exact h
    · rw [if_neg e] at h; exact h
  · rw [if_neg c, if_pos (bI_n0.mp d)] at h
    rw [nI_ltI (by omega) (by omega)]
    refine ⟨fun e => ?_, fun e => ?_⟩
    · rw [if_neg (by omega)] at h; exact h
    · by_cases z : p < q
      · rw [if_pos z] at h; exact h
      · rw [if_neg z, show p = q by omega] at h; exact h
theorem m_ways (hk : SOk S) (hM : RM S M) (hp : p ≤ 12) (hq : q ≤ 12) (hins : ins < 256) (hl : left < 256) (hs : nd left ins = 0) (h : Q (some (.long (lN (wys S.2.2.1 ins p q left (dn S.2.2.1))))) M) : C_X11_waysOf G (nI left) (nI ins) (nI p) (nI q) M Q := by
  have h8 := hk.2.2.1.1
  have lp : ∀ (k i : Nat), i + k = dn S.2.2.1 → P_X11_waysOf_6 G (nI left) (nI ins) (nI p) (nI q) (lN (wys S.2.2.1 ins p q left i)) (nI i) M Q := by
    intro k
    induction k with
    | zero =>
      intro i hi
      have : i = dn S.2.2.1 := by omega
      subst this
      refine v_X11_waysOf_6 ?_
      rw [hM.nz]
      exact br_f (nI_nlt (Nat.le_refl _) (by omega)) h
    | succ k ih =>
      intro i hi
      have hi2 : i < dn S.2.2.1 := by omega
      have ih1 := ih (i + 1) (by omega)
      have l12 := lsN_le (x := glD S.2.2.1 i) hp hq
      rw [show wys S.2.2.1 ins p q left (i + 1) = wys S.2.2.1 ins p q left i * wyF S.2.2.1 ins p q left i from rfl] at ih1
      unfold wyF at ih1
      refine v_X11_waysOf_6 ?_
      rw [hM.nz]
      refine br_t (nI_lt hi2 (by omega)) (m_loss hk hM hi2 hp hq (RI.mk ?_))
      rw [tb_sh0 _ hins i (by omega), tb_sh1 _ hl i (by omega), show (12 : Int32) = nI 12 from rfl, pk_sub l12, nI_l (by omega), nI_l (by omega), lN_mul, lN_mul, nI_1, Int64.mul_one]
      refine ⟨fun c => ?_, fun c => ⟨fun d => ?_, fun d => ?_⟩⟩
      · have c2 : ¬ left.testBit i = true := fun z => by
          have := nd_0.mp hs i z
          rw [c] at this
          cases this
        rw [if_neg c2, if_neg (by rw [c]; decide), Nat.mul_one] at ih1
        exact ih1
      · rw [if_pos d] at ih1; exact ih1
      · rw [if_neg d, if_pos (tbf c)] at ih1; exact ih1
  exact v_X11_waysOf (lp (dn S.2.2.1) 0 (by omega))
theorem m_all (hk : SOk S) (hM : RM S M) (hins : ins < 256) (h : Q (some (.long (lN (alw ins (dn S.2.2.1))))) M) : C_X11_allWays G (nI ins) M Q := by
  have h8 := hk.2.2.1.1
  have lp : ∀ (k i : Nat), i + k = dn S.2.2.1 → P_X11_allWays_5 G (nI ins) (lN (alw ins i)) (nI i) M Q := by
    intro k
    induction k with
    | zero =>
      intro i hi
      have : i = dn S.2.2.1 := by omega
      subst this
      refine v_X11_allWays_5 ?_
      rw [hM.nz]
      exact br_f (nI_nlt (Nat.le_refl _) (by omega)) h
    | succ k ih =>
      intro i hi
      have hi2 : i < dn S.2.2.1 := by omega
      have ih1 := ih (i + 1) (by omega)
      rw [show alw ins (i + 1) = alw ins i * (if ins.testBit i = true then 12 else 1) from rfl] at ih1
      refine v_X11_allWays_5 ?_
      rw [hM.nz, tb_sh1 _ hins i (by omega), show (12 : Int64) = lN 12 from rfl, lN_mul, nI_1, Int64.mul_one]
      refine br_t (nI_lt hi2 (by omega)) ⟨fun d => ?_, fun d => ?_⟩
      · rw [if_pos d] at ih1; exact ih1
      · rw [if_neg d, Nat.mul_one] at ih1; exact ih1
  exact v_X11_allWays (lp (dn S.2.2.1) 0 (by omega))
/-- the reference's end -/
theorem m_fin (hk : SOk S) (hM : RM S M) (hins : ins < 256) {s : Nat} (hs : s ≤ 256 * 82556485632) (h : ∀ M', EqM M M' → RM (sU S (lN (s / Nat.gcd s (alw ins (dn S.2.2.1)))) (lN (alw ins (dn S.2.2.1) / Nat.gcd s (alw ins (dn S.2.2.1))))) M' → Q (some (.int 1)) M') : C_X11_allWays G (nI ins) M (RJ fun r5 M4 => WpM G 1 Y_X11_tellPart [.ref (ad G 71), .long (lN s), .long r5] M4 (RV fun M6 => Q (some (.int 1)) M6)) := by
  have al := alw_le ins (dn S.2.2.1)
  have a12 := p12 hk.2.2.1.1
  refine m_all hk hM hins (RJ.mk (v_X11_tellPart (tp_loop (by omega) (by omega) (fun M' e => RV.mk ?_) (Nat.gcd_pos_of_pos_right _ al.2) (alw ins (dn S.2.2.1) + 1) s _ (by omega) (by omega) (by omega) rfl)))
  rw [e]
  exact h _ ((Eqv.rf.upL (by omega)).upL (by omega)) (hM.up _ _)
theorem all_end (hn : n ≤ 8) {j : Nat} : nI (2 ^ n - 1) < nI j ∧ j ≤ 256 → 2 ^ n ≤ j := fun h => by
  have p2 := p2_257 hn
  rw [nI_ltI (by omega) (by omega)] at h
  omega
def eno (D : Dr) (v j : Nat) : Nat := if most D j < v then 0 else 1
theorem odds_loop (hk : SOk S) (hM : RM S M) (hT : TbM S.2.2.1 (2 ^ dn S.2.2.1) M) (hins : ins < 256) (hp : p ≤ 12) (hq : q ≤ 12) {v : Nat} (hv : v < 5) (h : ∀ M', EqM M M' → RM (sU S (lN (sw S.2.2.1 ins p q (eno S.2.2.1 v) (2 ^ dn S.2.2.1) / Nat.gcd (sw S.2.2.1 ins p q (eno S.2.2.1 v) (2 ^ dn S.2.2.1)) (alw ins (dn S.2.2.1)))) (lN (alw ins (dn S.2.2.1) / Nat.gcd (sw S.2.2.1 ins p q (eno S.2.2.1 v) (2 ^ dn S.2.2.1)) (alw ins (dn S.2.2.1))))) M' → Q (some (.int 1)) M') :
    ∀ (k j : Nat), j + k = 2 ^ dn S.2.2.1 → P_X11_odds_46 G (nI v) (nI p) (nI q) (nI ins) (lN (sw S.2.2.1 ins p q (eno S.2.2.1 v) j)) (nI j) M Q := by
  have h8 := hk.2.2.1.1
  have p2 := p2_257 h8
  have pp := p2_pos (dn S.2.2.1)
  have e1 : ∀ j, eno S.2.2.1 v j ≤ 192 := fun j => by unfold eno; split <;> omega
  intro k
  induction k with
  | zero =>
    intro j hj
    have : j = 2 ^ dn S.2.2.1 := by omega
    subst this
    exact v_X11_odds_46 (all_ok hM.nz h8 (RI.mk (br_t (nI_lt (by omega) (by omega)) (m_fin hk hM hins (Nat.le_trans (sw_le h8 e1 hp hq _) (Nat.mul_le_mul_right _ p2)) h))))
  | succ k ih =>
    intro j hj
    have ih1 := ih (j + 1) (by omega)
    have ml := most_le S.2.2.1 j
    refine v_X11_odds_46 (all_ok hM.nz h8 (RI.mk (br_f (nI_nlt (by omega) (by omega)) ?_)))
    rw [and_tab (a := j) (by omega), Int64.add_zero, nI_1, ncl (by omega), (hT j (by omega)).2, nI_ltI (by have : most S.2.2.1 j ≤ 8 := ml; omega) (by omega)]
    refine ⟨fun c => ⟨vin (by omega), fun d => ?_, fun d => ?_⟩, fun c => ?_⟩
    · rw [sw_y c, show eno S.2.2.1 v j = 0 from if_pos d, Nat.zero_mul, Nat.add_zero] at ih1
      exact ih1
    · refine m_ways hk hM hp hq hins (by omega) c (RJ.mk ?_)
      rw [sw_y c, show eno S.2.2.1 v j = 1 from if_neg d, Nat.one_mul] at ih1
      rw [lN_add]
      exact ih1
    · rw [sw_n c] at ih1; exact ih1
theorem mid_loop (hk : SOk S) (hM : RM S M) (hT : TbM S.2.2.1 (2 ^ dn S.2.2.1) M) (hins : ins < 256) (hp : p ≤ 12) (hq : q ≤ 12) (h : ∀ M', EqM M M' → RM (sU S (lN (sw S.2.2.1 ins p q (fun m => best S.2.2.1 m) (2 ^ dn S.2.2.1) / Nat.gcd (sw S.2.2.1 ins p q (fun m => best S.2.2.1 m) (2 ^ dn S.2.2.1)) (alw ins (dn S.2.2.1)))) (lN (alw ins (dn S.2.2.1) / Nat.gcd (sw S.2.2.1 ins p q (fun m => best S.2.2.1 m) (2 ^ dn S.2.2.1)) (alw ins (dn S.2.2.1))))) M' → Q (some (.int 1)) M') :
    ∀ (k j : Nat), j + k = 2 ^ dn S.2.2.1 → P_X11_mid_36 G (nI p) (nI q) (nI ins) (lN (sw S.2.2.1 ins p q (fun m => best S.2.2.1 m) j)) (nI j) M Q := by
  have h8 := hk.2.2.1.1
  have p2 := p2_257 h8
  have pp := p2_pos (dn S.2.2.1)
  intro k
  induction k with
  | zero =>
    intro j hj
    have : j = 2 ^ dn S.2.2.1 := by omega
    subst this
    exact v_X11_mid_36 (all_ok hM.nz h8 (RI.mk (br_t (nI_lt (by omega) (by omega)) (m_fin hk hM hins (Nat.le_trans (sw_le h8 (best_le hk.2.2.1) hp hq _) (Nat.mul_le_mul_right _ p2)) h))))
  | succ k ih =>
    intro j hj
    have ih1 := ih (j + 1) (by omega)
    have bl : best S.2.2.1 j ≤ 192 := best_le hk.2.2.1 j
    refine v_X11_mid_36 (all_ok hM.nz h8 (RI.mk (br_f (nI_nlt (by omega) (by omega)) ?_)))
    rw [and_tab (a := j) (by omega), Int64.add_zero, nI_1]
    refine ⟨fun c => ⟨vin (by omega), m_ways hk hM hp hq hins (by omega) c (RJ.mk ?_)⟩, fun c => ?_⟩
    · rw [ncl (by omega), (hT j (by omega)).1, nI_l (by omega), lN_mul, lN_add]
      rintro _ rfl
      rw [sw_y c] at ih1
      exact ih1
    · rw [sw_n c] at ih1; exact ih1
theorem mk_ok (hk : SOk S) {v : Nat} (hv : v < 5) (M0 : Mem) (hT : ∀ m, m < 2 ^ dn S.2.2.1 → M0.1 26 m = nI (most S.2.2.1 m)) (h : ∀ M', Eqv (fun a _ => a = 27) M0 M' → (∀ m, m < 2 ^ dn S.2.2.1 → M'.1 27 m = nI (eno S.2.2.1 v m)) → Q none M') : C_X6_markSetsOf G (nI v) M0 Q := by
  have p2 := p2_257 hk.2.2.1.1
  have lp : ∀ (k j : Nat) (M : Mem), j + k = 256 → Eqv (fun a _ => a = 27) M0 M → (∀ m, m < j → m < 2 ^ dn S.2.2.1 → M.1 27 m = nI (eno S.2.2.1 v m)) → P_X6_markSetsOf_2 G (nI v) (nI j) M Q := by
    intro k
    induction k with
    | zero =>
      intro j M hj e he
      have : j = 256 := by omega
      subst this
      exact v_X6_markSetsOf_2 (br_f (by decide) (h M e fun m hm => he m (by omega) hm))
    | succ k ih =>
      intro j M hj e he
      refine v_X6_markSetsOf_2 (br_t (show nI j < nI 256 from nI_lt (by omega) (by decide)) ⟨vin (by omega), ?_⟩)
      rw [ncl (by omega), e.i (by omega), nI_1]
      have put : ∀ z : Int32, (j < 2 ^ dn S.2.2.1 → z = nI (eno S.2.2.1 v j)) → P_X6_markSetsOf_2 G (nI v) (nI (j + 1)) (upI M 27 j z) Q := fun z hz => ih (j + 1) _ (by omega) (e.upI rfl) fun m hm hm2 => by
        by_cases c : m = j
        · subst c; rw [upI_s]; exact hz hm2
        · rw [upI_n _ _ (by omega)]; exact he m (by omega) hm2
      have lt : j < 2 ^ dn S.2.2.1 → (M0.1 26 j < nI v ↔ most S.2.2.1 j < v) := fun hj2 => by
        have ml : most S.2.2.1 j ≤ 8 := most_le _ _
        rw [hT j hj2, nI_ltI (by omega) (by omega)]
      refine ⟨fun c => ⟨vin (by omega), ?_⟩, fun c => ⟨vin (by omega), ?_⟩⟩
      · rintro _ rfl
        refine put 0 fun hj2 => ?_
        rw [show eno S.2.2.1 v j = 0 from if_pos ((lt hj2).mp c)]
        rfl
      · rintro _ rfl
        refine put 1 fun hj2 => ?_
        rw [show eno S.2.2.1 v j = 1 from if_neg fun z => c ((lt hj2).mpr z)]
        rfl
  exact v_X6_markSetsOf (lp 256 0 M0 (by omega) Eqv.rf (fun m hm => absurd hm (Nat.not_lt_zero m)))
theorem lt12 {x : Int32} (h : x < 0 ∨ nI 13 ≤ x) : x < 0 ∨ nI 12 < x := h.imp id fun q => (nlt_le (n := 12) (by decide)).mpr q
theorem ch_y (hp : p < 13) (h : Q (some (.int 1)) M) : C_X10_isChance G (nI p) M Q := v_X10_isChance (br_f (nI_pos (by omega)) (br_f (show ¬ nI 12 < nI p from nI_nlt (by omega) (by omega)) h))
theorem ch_n {x : Int32} (hx : x < 0 ∨ nI 13 ≤ x) (h : Q (some (.int 0)) M) : C_X10_isChance G x M Q := v_X10_isChance ⟨fun _ => h, fun c => br_t ((lt12 hx).resolve_left c) h⟩
theorem ar_y (hp : p < 13) (hq : q < 13) (h : Q (some (.int 1)) M) : C_X11_areOf G (nI p) (nI q) M Q :=
  v_X11_areOf (m_in_y (nI_pos (by omega)) (show ¬ nI 12 < nI p from nI_nlt (by omega) (by omega)) (RI.mk (br_f (by decide) (m_in_y (nI_pos (by omega)) (show ¬ nI 12 < nI q from nI_nlt (by omega) (by omega)) (RI.mk (br_f (by decide) h))))))
theorem ar_n1 {x y : Int32} (hx : x < 0 ∨ nI 13 ≤ x) (h : Q (some (.int 0)) M) : C_X11_areOf G x y M Q := v_X11_areOf (m_in_n (lt12 hx) (RI.mk (br_t rfl h)))
theorem ar_n2 (hp : p < 13) {y : Int32} (hx : y < 0 ∨ nI 13 ≤ y) (h : Q (some (.int 0)) M) : C_X11_areOf G (nI p) y M Q :=
  v_X11_areOf (m_in_y (nI_pos (by omega)) (show ¬ nI 12 < nI p from nI_nlt (by omega) (by omega)) (RI.mk (br_f (by decide) (m_in_n (lt12 hx) (RI.mk (br_t rfl h))))))
/-- promise 35 -/
theorem law_mid (hB : Bo M) (x y : Int32) : C_X10_mid G x y M (RI fun r M1 => C_X11_mid G x y M1 (RI fun r2 M2 => r = r2 ∧ Bo M2)) := by
  obtain ⟨S, hk, hC, hM⟩ := id hB
  have h8 := hk.2.2.1.1
  rcases ix3 x (n := 13) (by decide) with hx | ⟨p, hp, rfl⟩
  · exact v_X10_mid (ch_n hx (RI.mk (br_t rfl (RI.mk (v_X11_mid (ar_n1 hx (RI.mk (br_t rfl (RI.mk ⟨rfl, hB⟩)))))))))
  rcases ix3 y (n := 13) (by decide) with hy | ⟨q, hq, rfl⟩
  · exact v_X10_mid (ch_y hp (RI.mk (br_f (by decide) (ch_n hy (RI.mk (br_t rfl (RI.mk (v_X11_mid (ar_n2 hp hy (RI.mk (br_t rfl (RI.mk ⟨rfl, hB⟩))))))))))))
  refine v_X10_mid (ch_y hp (RI.mk (br_f (by decide) (ch_y hq (RI.mk (br_f (by decide) ?_))))))
  rw [hC.nz, dn0 h8]
  refine ⟨fun c => RI.mk (v_X11_mid (ar_y hp hq (RI.mk (br_f (by decide) ?_)))), fun c => ?_⟩
  · rw [hM.nz, dn0 h8]; exact br_t c (RI.mk ⟨rfl, hB⟩)
  refine weigh_ok hk.2.2.1 hC.2.2.1 fun M1 e1 _ t1 => RV.mk ?_
  have hC1 := hC.wg hk e1
  refine rk_ok (o4 := 25) rfl rfl (by decide) hk hC1 (by omega) (by omega) (val := fun m => best S.2.2.1 m) (fun j => best_le hk.2.2.1 j) (fun j hj => (t1 j hj).1) fun M2 e2 hC2 => RV.mk (RI.mk ?_)
  have hM2 : RM S M2 := (hM.oth (e1.mono (by omega))).oth (e2.mono (by omega))
  refine v_X11_mid (ar_y hp hq (RI.mk (br_f (by decide) ?_)))
  rw [hM2.nz, dn0 h8]
  refine br_f c (measure_ok hk.2.2.1 hM2.2.2.1 fun M3 e3 t3 => RV.mk ?_)
  have hM3 := hM2.wg e3
  exact mset_ok (w := 0) hk.2.2.1 hM3.2.2.1 (by decide) (RI.mk (mid_loop hk hM3 t3 (sIn_lt _ h8 0) (by omega) (by omega) (fun M4 e4 hM4 => RI.mk ⟨rfl, Bo.mk (hk.sU _ _) ((hC2.oth (hk.sU _ _) (e3.mono (by omega))).oth (hk.sU _ _) e4) hM4⟩) (2 ^ dn S.2.2.1) 0 (by omega)))
/-- promise 34 -/
theorem law_odds (hB : Bo M) (x y z : Int32) : C_X10_odds G x y z M (RI fun r M1 => C_X11_odds G x y z M1 (RI fun r2 M2 => r = r2 ∧ Bo M2)) := by
  obtain ⟨S, hk, hC, hM⟩ := id hB
  have h8 := hk.2.2.1.1
  rcases ix3 x (n := 5) (by decide) with hx | ⟨v, hv, rfl⟩
  · have hx' : x < 0 ∨ nI 4 < x := hx.imp id fun q => (nlt_le (n := 4) (by decide)).mpr q
    have mm : C_X11_odds G x y z M (RI fun r2 M2 => (-1 : Int32) = r2 ∧ Bo M2) := v_X11_odds (m_in_n hx' (RI.mk (br_t rfl (RI.mk ⟨rfl, hB⟩))))
    exact v_X10_odds ⟨fun _ => RI.mk mm, fun c => br_t (hx'.resolve_left c) (RI.mk mm)⟩
  have inY : ∀ {M : Mem} {Q : Option Value → Mem → Prop}, Q (some (.int 1)) M → C_X11_in G (nI v) 0 4 M Q := fun h => m_in_y (nI_pos (by omega)) (show ¬ nI 4 < nI v from nI_nlt (by omega) (by omega)) h
  refine v_X10_odds (br_f (nI_pos (by omega)) (br_f (show ¬ nI 4 < nI v from nI_nlt (by omega) (by omega)) ?_))
  rcases ix3 y (n := 13) (by decide) with hy | ⟨p, hp, rfl⟩
  · exact ch_n hy (RI.mk (br_t rfl (RI.mk (v_X11_odds (inY (RI.mk (br_f (by decide) (ar_n1 hy (RI.mk (br_t rfl (RI.mk ⟨rfl, hB⟩)))))))))))
  rcases ix3 z (n := 13) (by decide) with hz | ⟨q, hq, rfl⟩
  · exact ch_y hp (RI.mk (br_f (by decide) (ch_n hz (RI.mk (br_t rfl (RI.mk (v_X11_odds (inY (RI.mk (br_f (by decide) (ar_n2 hp hz (RI.mk (br_t rfl (RI.mk ⟨rfl, hB⟩))))))))))))))
  refine ch_y hp (RI.mk (br_f (by decide) (ch_y hq (RI.mk (br_f (by decide) ?_)))))
  rw [hC.nz, dn0 h8]
  refine ⟨fun c => RI.mk (v_X11_odds (inY (RI.mk (br_f (by decide) (ar_y hp hq (RI.mk (br_f (by decide) ?_))))))), fun c => ?_⟩
  · rw [hM.nz, dn0 h8]; exact br_t c (RI.mk ⟨rfl, hB⟩)
  refine weigh_ok hk.2.2.1 hC.2.2.1 fun M1 e1 _ t1 => RV.mk ?_
  have hC1 := hC.wg hk e1
  refine mk_ok hk hv M1 (fun m hm => (t1 m hm).2) fun M1' e1' t1' => RV.mk ?_
  have hC1' : RC S M1' := hC1.scr hk (e1'.mono (by unfold scrC; omega))
  refine rk_ok (o4 := 27) rfl rfl (by decide) hk hC1' (by omega) (by omega) (val := eno S.2.2.1 v) (fun j => by unfold eno; split <;> omega) t1' fun M2 e2 hC2 => RV.mk (RI.mk ?_)
  have hM2 : RM S M2 := ((hM.oth (e1.mono (by omega))).oth (e1'.mono (by omega))).oth (e2.mono (by omega))
  refine v_X11_odds (inY (RI.mk (br_f (by decide) (ar_y hp hq (RI.mk (br_f (by decide) ?_))))))
  rw [hM2.nz, dn0 h8]
  refine br_f c (measure_ok hk.2.2.1 hM2.2.2.1 fun M3 e3 t3 => RV.mk ?_)
  have hM3 := hM2.wg e3
  exact mset_ok (w := 0) hk.2.2.1 hM3.2.2.1 (by decide) (RI.mk (odds_loop hk hM3 t3 (sIn_lt _ h8 0) (by omega) (by omega) hv (fun M4 e4 hM4 => RI.mk ⟨rfl, Bo.mk (hk.sU _ _) ((hC2.oth (hk.sU _ _) (e3.mono (by omega))).oth (hk.sU _ _) e4) hM4⟩) (2 ^ dn S.2.2.1) 0 (by omega)))
end CHM
