/-! guesses, chances, duel, lots -/
section DTC
variable {G : Glob} {M : Mem} {Q : Option Value → Mem → Prop} {S : St}
theorem gsC_or (hk : SOk S) (x y : Int32) :
    (∃ (v : Int32) (S' : St), SOk S' ∧ dn S'.2.2.1 = dn S.2.2.1 ∧ ¬ v = 0 ∧ (∀ (G : Glob) (M : Mem) (Q : Option Value → Mem → Prop), RC S M → (∀ M', RC S' M' → Q (some (.int v)) M') → C_X10_refusedGuess G x y M Q)) ∨
    (∃ i r h : Nat, x = nI i ∧ i < dn S.2.2.1 ∧ y = nI r ∧ r < 6 ∧ S.1.1 r = some (2 * h) ∧ wtA (dn S.2.2.1) i (S.1.2 r) h ∧ (∀ (G : Glob) (M : Mem) (Q : Option Value → Mem → Prop), RC S M → Q (some (.int 0)) M → C_X10_refusedGuess G x y M Q)) := by
  have h8 := hk.2.2.1.1
  rcases ix3 x (n := dn S.2.2.1) (by omega) with hx | ⟨i, hi, rfl⟩
  · exact Or.inl ⟨-1, S, hk, rfl, by decide, fun G M Q hC h => v_X10_refusedGuess (has_n hC.nz hx (RI.mk (br_t rfl (h M hC))))⟩
  rcases ix3 y (n := 6) (by decide) with hy | ⟨r, hr, rfl⟩
  · exact Or.inl ⟨-1, S, hk, rfl, by decide, fun G M Q hC h => v_X10_refusedGuess (has_y hC.nz h8 hi (RI.mk (br_f (by decide) (c_refRow_n hy (RI.mk (br_f (by decide) (h M hC)))))))⟩
  cases hn : S.1.1 r with
  | none => exact Or.inl ⟨-3, sF S 1, hk.sF 1, rfl, by decide, fun G M Q hC h => refG_row (c_refRow_m hk hC hr hn fun M' a b => RI.mk (br_f (by decide) (h M' a))) hC.nz h8 hi⟩
  | some n =>
    have h40 := hk.1 r hr n hn
    obtain ⟨t0, t1⟩ := odd_tab n (by omega)
    by_cases e : n % 2 = 1
    · refine Or.inl ⟨-3, sF S 5, hk.sF 5, rfl, by decide, fun G M Q hC h => refG_row (c_refRow_y hk hC hr hn (RI.mk (br_t rfl (size_ok RPk.R hC.1 hr (RI.mk ?_))))) hC.nz h8 hi⟩
      rw [hn, oSs]
      exact br_f (fun q => by have := t0.mp q; omega) (c_finds (f := 5) hk hC (by decide) (by decide) fun M' a b => RI.mk (h M' a))
    · have e0 : n = 2 * (n / 2) := by omega
      have e1 : n % 2 = 0 := by omega
      have hn' : S.1.1 r = some (2 * (n / 2)) := by rw [← e0]; exact hn
      have CC : ∀ (G : Glob) (M : Mem) (Q : Option Value → Mem → Prop), RC S M → (wtA (dn S.2.2.1) i (S.1.2 r) (n / 2) → Q (some (.int 0)) M) → (¬ wtA (dn S.2.2.1) i (S.1.2 r) (n / 2) → ∀ M', RC (sF S 3) M' → Q (some (.int (-3))) M') → C_X10_refusedGuess G (nI i) (nI r) M Q := fun G M Q hC k1 k0 => by
        refine refG_row (c_refRow_y hk hC hr hn (RI.mk (br_t rfl (size_ok RPk.R hC.1 hr (RI.mk ?_))))) hC.nz h8 hi
        rw [hn, oSs]
        refine br_t (t0.mpr e1) (v_X5_isWellTold (iwt_loop hk hC hi hr hn' (fun a => RI.mk (br_f (by decide) (k1 a))) (fun a => RI.mk (br_t rfl ?_)) (n / 2) 0 (by omega) (fun q hq => absurd hq (Nat.not_lt_zero q))))
        exact c_finds (f := 3) hk hC (by decide) (by decide) fun M' b c => RI.mk (k0 a M' b)
      by_cases w : wtA (dn S.2.2.1) i (S.1.2 r) (n / 2)
      · exact Or.inr ⟨i, r, n / 2, rfl, hi, rfl, hr, hn', w, fun G M Q hC h => CC G M Q hC (fun _ => h) (fun a => absurd w a)⟩
      · exact Or.inl ⟨-3, sF S 3, hk.sF 3, rfl, by decide, fun G M Q hC h => CC G M Q hC (fun a => absurd a w) (fun _ => h)⟩
theorem dt_kinds (hk : SOk S) (x y : Int32) : Dt (fun G M Q => C_X10_kinds G x y M Q) S (Pn S) := by
  rcases gsC_or hk x y with ⟨v, S', hk', hd, v1, jC⟩ | ⟨i, r, h, rfl, hi, rfl, hr, hn, hw, jC⟩
  · exact ⟨v, S', hk', hd, fun G M Q hC h => v_X10_kinds (jC G _ _ hC fun M1 hC1 => RI.mk (br_f v1 (h M1 hC1)))⟩
  · exact ⟨_, S, hk, rfl, fun G M Q hC k => v_X10_kinds (jC G _ _ hC (RI.mk (br_t rfl (kk_ok hk hC hi hr hn hw fun M1 e1 => RI.mk (k M1 (hC.scr hk (e1.mono (by unfold scrC; omega))))))))⟩
theorem dt_test (hk : SOk S) (x y : Int32) : Dt (fun G M Q => C_X10_test G x y M Q) S (Pn S) := by
  have h8 := hk.2.2.1.1
  rcases gsC_or hk x y with ⟨v, S', hk', hd, v1, jC⟩ | ⟨i, r, h, rfl, hi, rfl, hr, hn, hw, jC⟩
  · exact ⟨v, S', hk', hd, fun G M Q hC h => v_X10_test (jC G _ _ hC fun M1 hC1 => RI.mk (br_f v1 (h M1 hC1)))⟩
  obtain ⟨set, hset⟩ : ∃ set, sb (kkP S.2.2.1 i (S.1.2 r) h) 6 = set := ⟨_, rfl⟩
  have hs : set < 64 := by rw [← hset]; exact sb_lt _ 6
  have pre : ∀ (G : Glob) (M : Mem) (Q : Option Value → Mem → Prop), RC S M → (∀ M1, RC S M1 → ((nI set = 0 → Q (some (.int (-9))) M1) ∧ (¬ nI set = 0 → ((dn S.2.2.1 < 2 → Q (some (.int (-9))) M1) ∧ (¬ dn S.2.2.1 < 2 → WpM G 6 Y_X5_nextTry [.ref (ad G 36), .ref (ad G 12), .int (nI i), .int (nI set)] M1 (RI fun r2 M2 => WpM G 5 Y_X5_greatestPart [.ref (ad G 36), .ref (ad G 12), .int (nI i), .int (nI set), .int r2] M2 (RI fun r3 M3 => ∀ M4 : Mem, M4 = upI M3 0 12 r3 → Q (some (.int r2)) M4))))))) → C_X10_test G (nI i) (nI r) M Q := fun G M Q hC k => by
    refine v_X10_test (jC G _ _ hC (RI.mk (br_t rfl (kk_ok hk hC hi hr hn hw fun M1 e1 => RI.mk ?_))))
    have hC1 : RC S M1 := hC.scr hk (e1.mono (by unfold scrC; omega))
    rw [hset, hC1.nz, show (2 : Int32) = nI 2 from rfl, nI_ltI (by omega) (by omega)]
    exact k M1 hC1
  by_cases z : set = 0
  · exact ⟨-9, S, hk, rfl, fun G M Q hC k => pre G M Q hC fun M1 hC1 => br_t (by rw [z]; rfl) (k M1 hC1)⟩
  by_cases c : dn S.2.2.1 < 2
  · exact ⟨-9, S, hk, rfl, fun G M Q hC k => pre G M Q hC fun M1 hC1 => br_f (nI_ne0 (by omega) (by omega)) (br_t c (k M1 hC1))⟩
  have cls : sml (tsC S.2.2.1 set i) (dn S.2.2.1) = none → dn S.2.2.1 < 2 := fun q => by
    exfalso
    have n0 := sml_none _ q (if i = 0 then 1 else 0) (by split <;> omega)
    rw [tsC_s (by split <;> omega)] at n0
    cases n0
  cases q : sml (tsC S.2.2.1 set i) (dn S.2.2.1) with
  | none => exact absurd (cls q) c
  | some y =>
    obtain ⟨b, m⟩ := y
    have sm := sml_is _ b m q
    have em : part S.2.2.1 set i b = m := by
      have h2 := sm.2
      unfold tsC at h2
      split at h2
      · cases h2
      · exact Option.some.inj h2
    refine ⟨nI b, sA S (nI m), hk.sA _, rfl, fun G M Q hC k => pre G M Q hC fun M1 hC1 => br_f (nI_ne0 (by omega) (by omega)) (br_f c ?_)⟩
    refine v_X5_nextTry (nt_loop hk M1 hC1 hi hs (fun M2 e2 => RI.mk ?_) (dn S.2.2.1) 0 M1 (by omega) Eqv.rf)
    have hC2 : RC S M2 := hC1.scr hk (e2.mono (by unfold scrC; omega))
    rw [q]
    refine gp_ok hk hC2 hi sm.1 hs fun M3 e3 => RI.mk ?_
    have hC3 : RC S M3 := hC2.scr hk (e3.mono (by unfold scrC; omega))
    rintro _ rfl
    rw [em]
    exact k _ (hC3.asked hk (nI m))
theorem dt_duel (hk : SOk S) (x : Int32) : Dt (fun G M Q => C_X10_duel G x M Q) S (Pn S) := by
  have h8 := hk.2.2.1.1
  have p2 := p2_257 h8
  rcases ix3 x (n := 7) (by decide) with hx | ⟨n, hn, rfl⟩
  · have hx' : x < 0 ∨ nI 6 < x := hx.imp id fun q => (nlt_le (n := 6) (by decide)).mpr q
    exact ⟨-1, S, hk, rfl, fun G M Q hC h => v_X10_duel ⟨fun _ => h M hC, fun c => br_t (hx'.resolve_left c) (h M hC)⟩⟩
  by_cases c : dn S.2.2.1 = 0
  · refine ⟨-4, S, hk, rfl, fun G M Q hC h => v_X10_duel (br_f (nI_pos (by omega)) (br_f (show ¬ nI 6 < nI n from nI_nlt (by omega) (by omega)) ?_))⟩
    rw [hC.nz, dn0 h8]
    exact br_t c (h M hC)
  refine ⟨iI (vl S.2.2.1 n 0 0 (sIn S.2.2.1 0)) + 100, S, hk, rfl, fun G M Q hC h => v_X10_duel (br_f (nI_pos (by omega)) (br_f (show ¬ nI 6 < nI n from nI_nlt (by omega) (by omega)) ?_))⟩
  rw [hC.nz, dn0 h8]
  refine br_f c (weigh_ok hk.2.2.1 hC.2.2.1 fun M1 e1 _ t1 => RV.mk ?_)
  have hC1 := hC.wg hk e1
  exact set_ok (w := 0) hk.2.2.1 hC1.2.2.1 (by decide) (RI.mk (la_ok hk hC1 t1 (sIn_n _ 0) (by omega) fun M2 e2 => RI.mk (h M2 (hC1.scr hk (e2.mono (by unfold scrC; omega))))))
theorem dt_mid (hk : SOk S) (x y : Int32) : Dt (fun G M Q => C_X10_mid G x y M Q) S (Pn S) := by
  have h8 := hk.2.2.1.1
  rcases ix3 x (n := 13) (by decide) with hx | ⟨p, hp, rfl⟩
  · exact ⟨-1, S, hk, rfl, fun G M Q hC h => v_X10_mid (ch_n hx (RI.mk (br_t rfl (h M hC))))⟩
  rcases ix3 y (n := 13) (by decide) with hy | ⟨q, hq, rfl⟩
  · exact ⟨-1, S, hk, rfl, fun G M Q hC h => v_X10_mid (ch_y hp (RI.mk (br_f (by decide) (ch_n hy (RI.mk (br_t rfl (h M hC)))))))⟩
  by_cases c : dn S.2.2.1 = 0
  · refine ⟨-4, S, hk, rfl, fun G M Q hC h => v_X10_mid (ch_y hp (RI.mk (br_f (by decide) (ch_y hq (RI.mk (br_f (by decide) ?_))))))⟩
    rw [hC.nz, dn0 h8]
    exact br_t c (h M hC)
  refine ⟨1, sU S (lN (sw S.2.2.1 (sIn S.2.2.1 0) p q (fun m => best S.2.2.1 m) (2 ^ dn S.2.2.1) / Nat.gcd (sw S.2.2.1 (sIn S.2.2.1 0) p q (fun m => best S.2.2.1 m) (2 ^ dn S.2.2.1)) (alw (sIn S.2.2.1 0) (dn S.2.2.1)))) (lN (alw (sIn S.2.2.1 0) (dn S.2.2.1) / Nat.gcd (sw S.2.2.1 (sIn S.2.2.1 0) p q (fun m => best S.2.2.1 m) (2 ^ dn S.2.2.1)) (alw (sIn S.2.2.1 0) (dn S.2.2.1)))), hk.sU _ _, rfl, fun G M Q hC h => v_X10_mid (ch_y hp (RI.mk (br_f (by decide) (ch_y hq (RI.mk (br_f (by decide) ?_))))))⟩
  rw [hC.nz, dn0 h8]
  refine br_f c (weigh_ok hk.2.2.1 hC.2.2.1 fun M1 e1 _ t1 => RV.mk ?_)
  have hC1 := hC.wg hk e1
  exact rk_ok (o4 := 25) rfl rfl (by decide) hk hC1 (by omega) (by omega) (val := fun m => best S.2.2.1 m) (fun j => best_le hk.2.2.1 j) (fun j hj => (t1 j hj).1) fun M2 e2 hC2 => RV.mk (h M2 hC2)
theorem dt_odds (hk : SOk S) (x y z : Int32) : Dt (fun G M Q => C_X10_odds G x y z M Q) S (Pn S) := by
  have h8 := hk.2.2.1.1
  rcases ix3 x (n := 5) (by decide) with hx | ⟨v, hv, rfl⟩
  · have hx' : x < 0 ∨ nI 4 < x := hx.imp id fun q => (nlt_le (n := 4) (by decide)).mpr q
    exact ⟨-1, S, hk, rfl, fun G M Q hC h => v_X10_odds ⟨fun _ => h M hC, fun c => br_t (hx'.resolve_left c) (h M hC)⟩⟩
  have pre : ∀ {G : Glob} {M : Mem} {Q : Option Value → Mem → Prop}, _ → C_X10_odds G (nI v) y z M Q := fun {G M Q} k => v_X10_odds (br_f (nI_pos (by omega)) (br_f (show ¬ nI 4 < nI v from nI_nlt (by omega) (by omega)) k))
  rcases ix3 y (n := 13) (by decide) with hy | ⟨p, hp, rfl⟩
  · exact ⟨-1, S, hk, rfl, fun G M Q hC h => pre (ch_n hy (RI.mk (br_t rfl (h M hC))))⟩
  rcases ix3 z (n := 13) (by decide) with hz | ⟨q, hq, rfl⟩
  · exact ⟨-1, S, hk, rfl, fun G M Q hC h => pre (ch_y hp (RI.mk (br_f (by decide) (ch_n hz (RI.mk (br_t rfl (h M hC)))))))⟩
  by_cases c : dn S.2.2.1 = 0
  · refine ⟨-4, S, hk, rfl, fun G M Q hC h => pre (ch_y hp (RI.mk (br_f (by decide) (ch_y hq (RI.mk (br_f (by decide) ?_))))))⟩
    rw [hC.nz, dn0 h8]
    exact br_t c (h M hC)
  refine ⟨1, sU S (lN (sw S.2.2.1 (sIn S.2.2.1 0) p q (eno S.2.2.1 v) (2 ^ dn S.2.2.1) / Nat.gcd (sw S.2.2.1 (sIn S.2.2.1 0) p q (eno S.2.2.1 v) (2 ^ dn S.2.2.1)) (alw (sIn S.2.2.1 0) (dn S.2.2.1)))) (lN (alw (sIn S.2.2.1 0) (dn S.2.2.1) / Nat.gcd (sw S.2.2.1 (sIn S.2.2.1 0) p q (eno S.2.2.1 v) (2 ^ dn S.2.2.1)) (alw (sIn S.2.2.1 0) (dn S.2.2.1)))), hk.sU _ _, rfl, fun G M Q hC h => pre (ch_y hp (RI.mk (br_f (by decide) (ch_y hq (RI.mk (br_f (by decide) ?_))))))⟩
  rw [hC.nz, dn0 h8]
  refine br_f c (weigh_ok hk.2.2.1 hC.2.2.1 fun M1 e1 _ t1 => RV.mk ?_)
  have hC1 := hC.wg hk e1
  refine mk_ok hk hv M1 (fun m hm => (t1 m hm).2) fun M1' e1' t1' => RV.mk ?_
  have hC1' : RC S M1' := hC1.scr hk (e1'.mono (by unfold scrC; omega))
  exact rk_ok (o4 := 27) rfl rfl (by decide) hk hC1' (by omega) (by omega) (val := eno S.2.2.1 v) (fun j => by unfold eno; split <;> omega) t1' fun M2 e2 hC2 => RV.mk (h M2 hC2)
theorem lotN_app : ∀ (k : Nat) (S : St) (x : Nat), ∃ E : List Deed, lotN S k x = sL S (dL S.2.2.1 ++ E)
  | 0, S, x => ⟨[], by rw [List.append_nil]; rfl⟩
  | k + 1, S, x => by
    obtain ⟨E, h⟩ := lotN_app k (sL S (dL S.2.2.1 ++ [lotD S.2.2.1 (stp x)])) (stp x)
    refine ⟨lotD S.2.2.1 (stp x) :: E, ?_⟩
    show lotN (sL S (dL S.2.2.1 ++ [lotD S.2.2.1 (stp x)])) k (stp x) = _
    rw [h]
    show sL S ((dL S.2.2.1 ++ [lotD S.2.2.1 (stp x)]) ++ E) = _
    rw [List.append_assoc]
    rfl
theorem c_lotsC (hk : SOk S) (hC : RC S M) {n s : Nat} (n1 : 1 ≤ n) (n20 : n ≤ 20) (s1 : 1 ≤ s) (hs : s < 2147483647) (h0 : 0 < dn S.2.2.1) (hl : (dL S.2.2.1).length + n ≤ 40) (h : ∀ M', RC (lotN S n s) M' → Q (some (.int (nI (pop (sIn (lotN S n s).2.2.1 0))))) M') : C_X10_lots G (nI n) (nI s) M Q := by
  have h8 := hk.2.2.1.1
  have h40 := hk.2.2.1.2.2.2.1
  refine v_X10_lots (br_f (show ¬ nI n < nI 1 from nI_nlt n1 (by omega)) (br_f (show ¬ nI 20 < nI n from nI_nlt n20 (by omega)) (br_f (show ¬ nI s < nI 1 from nI_nlt s1 (by omega)) ?_)))
  rw [lg_cmp_lt, nI_l (by omega), show (2147483647 : Int64) = lN 2147483647 from rfl, pk_lLT (by omega) (by decide)]
  refine br_t hs ?_
  rw [hC.nz, dn0 h8]
  refine br_f (by omega) (left_ok hC.nd h40 (RI.mk ?_))
  rw [nI_ltI (by omega) (by omega)]
  exact br_f (by omega) (l63_loop n20 n 0 S s M (by omega) hk hC (by omega) (by omega) (by omega) fun M1 hC1 e1 => h M1 hC1)
theorem dt_lots (hk : SOk S) (x y : Int32) : Dt (fun G M Q => C_X10_lots G x y M Q) S (Pn S) := by
  have h8 := hk.2.2.1.1
  have h40 := hk.2.2.1.2.2.2.1
  by_cases x1 : x < 1
  · exact ⟨-1, S, hk, rfl, fun G M Q hC h => v_X10_lots (br_t x1 (h M hC))⟩
  by_cases x2 : nI 20 < x
  · exact ⟨-1, S, hk, rfl, fun G M Q hC h => v_X10_lots (br_f x1 (br_t x2 (h M hC)))⟩
  obtain ⟨n, hn, rfl⟩ := nI_of (x := x) (fun q => x1 (Int32.lt_of_lt_of_le q (by decide)))
  have n1 : 1 ≤ n := by
    rcases Nat.eq_zero_or_pos n with c | c
    · rw [c] at x1; exact absurd (by decide) x1
    · exact c
  have n20 : n ≤ 20 := by
    rcases Nat.lt_or_ge 20 n with c | c
    · exact absurd (nI_lt c hn) x2
    · exact c
  by_cases y1 : y < 1
  · exact ⟨-1, S, hk, rfl, fun G M Q hC h => v_X10_lots (br_f x1 (br_f x2 (br_t y1 (h M hC))))⟩
  obtain ⟨s, hs, rfl⟩ := nI_of (x := y) (fun q => y1 (Int32.lt_of_lt_of_le q (by decide)))
  have s1 : 1 ≤ s := by
    rcases Nat.eq_zero_or_pos s with c | c
    · rw [c] at y1; exact absurd (by decide) y1
    · exact c
  by_cases c : s < 2147483647
  · by_cases d : dn S.2.2.1 = 0
    · refine ⟨-4, S, hk, rfl, fun G M Q hC h => v_X10_lots (br_f x1 (br_f x2 (br_f y1 ?_)))⟩
      rw [lg_cmp_lt, nI_l (by omega), show (2147483647 : Int64) = lN 2147483647 from rfl, pk_lLT (by omega) (by decide)]
      refine br_t c ?_
      rw [hC.nz, dn0 h8]
      exact br_t d (h M hC)
    · by_cases e : (dL S.2.2.1).length + n ≤ 40
      · have hk' := lotN_ok n S s hk (by omega) e
        refine ⟨_, _, hk', ?_, fun G M Q hC h => c_lotsC hk hC n1 n20 s1 c (by omega) e h⟩
        obtain ⟨E, hE⟩ := lotN_app n S s
        show dn (lotN S n s).2.2.1 = _
        rw [hE]
        rfl
      · refine ⟨-2, S, hk, rfl, fun G M Q hC h => v_X10_lots (br_f x1 (br_f x2 (br_f y1 ?_)))⟩
        rw [lg_cmp_lt, nI_l (by omega), show (2147483647 : Int64) = lN 2147483647 from rfl, pk_lLT (by omega) (by decide)]
        refine br_t c ?_
        rw [hC.nz, dn0 h8]
        refine br_f d (left_ok hC.nd h40 (RI.mk ?_))
        rw [nI_ltI (by omega) (by omega)]
        exact br_t (by omega) (h M hC)
  · refine ⟨-1, S, hk, rfl, fun G M Q hC h => v_X10_lots (br_f x1 (br_f x2 (br_f y1 ?_)))⟩
    rw [lg_cmp_lt, nI_l (by omega), show (2147483647 : Int64) = lN 2147483647 from rfl, pk_lLT (by omega) (by decide)]
    exact br_f c (h M hC)
end DTC
