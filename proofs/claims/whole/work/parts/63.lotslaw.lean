section LOM
variable {G : Glob} {M : Mem} {Q : Option Value → Mem → Prop} {S : St} {D : Dr} {n : Nat}
theorem m_lot (hk : SOk S) (hM : RM S M) (h0 : 0 < dn S.2.2.1) {d e : Deed} (he : e = d) (hd : DdOk (dn S.2.2.1) d) (hlen : (dL S.2.2.1).length < 40) {K : Mem → Prop} (h : ∀ M', RM (sL S (dL S.2.2.1 ++ [e])) M' → EqM M M' → K M') {a b c : Int32} (ha : a = nI (mwh d)) (hb : b = nI d.2.1) (hc : c = nI (mwb d)) : WpM G 2 Y_X11_does [.ref (ad G 71), .int a, .int b, .int c] M (RV K) := by
  subst he ha hb hc
  exact m_does hk hM hd hlen fun M1 hM1 e1 => RV.mk (h M1 hM1 e1)
theorem l53_loop (hn20 : n ≤ 20) : ∀ (k j : Nat) (S : St) (x : Nat) (M : Mem), j + k = n → SOk S → RM S M → 0 < dn S.2.2.1 → (dL S.2.2.1).length + k ≤ 40 → x < 2147483648 → (∀ M', RM (lotN S k x) M' → EqM M M' → Q (some (.int (nI (pop (sIn (lotN S k x).2.2.1 0))))) M') → P_X11_lots_53 G (nI n) (lN x) (nI j) M Q := by
  intro k
  induction k with
  | zero =>
    intro j S x M hj hk hM h0 hl hx h
    exact v_X11_lots_53 (br_f (nI_nlt (by omega) (by omega)) (m_many_in hk.2.2.1 hM.2.2.1 (RI.mk (h M hM Eqv.rf))))
  | succ k ih =>
    intro j S x M hj hk hM h0 hl hx h
    have h8 := hk.2.2.1.1
    have sl := stp_lt x
    have hi : stp x / 8 % dn S.2.2.1 < dn S.2.2.1 := Nat.mod_lt _ h0
    have ok1 := glD_ok hk.2.2.1 hi
    refine v_X11_lots_53 (br_t (nI_lt (by omega) (by omega)) ?_)
    rw [show (48271 : Int64) = lN 48271 from rfl, show (2147483647 : Int64) = lN 2147483647 from rfl, lN_mul, pk_lRem (by omega) (by decide) (by decide), nI_1, Nat.mul_comm, hM.nz]
    rintro _ rfl
    refine ⟨by rw [nI_l (by omega)]; exact lne0 (by omega) h0, ?_⟩
    rw [show x * 48271 % 2147483647 = stp x from rfl, lmod h0 h8 (by omega)]
    rintro _ rfl
    refine twos_m hk hM fun M1 e1 l1 t1 => RV.mk ?_
    have hM1 := hM.tw e1
    have e1' : EqM M M1 := e1.mono (by unfold PT; omega)
    have go : ∀ (M2 : Mem), EqM M M2 → RM (sL S (dL S.2.2.1 ++ [lotD S.2.2.1 (stp x)])) M2 → P_X11_lots_53 G (nI n) (lN (stp x)) (nI (j + 1)) M2 Q := fun M2 e2 hM2 =>
      ih (j + 1) _ (stp x) M2 (by omega) (hk.sL (hk.2.2.1.2.2.2.app (by omega) (lot_ok h0 _))) hM2 h0 (len1 hl) (by omega) fun M3 hM3 e3 => h M3 hM3 (e2.tr e3)
    have tw : ¬ (whO (dL S.2.2.1) (stp x / 8 % dn S.2.2.1) = 0 ∧ ¬ gK (glD S.2.2.1 (stp x / 8 % dn S.2.2.1)) = 3) → ¬ (whO (dL S.2.2.1) (stp x / 8 % dn S.2.2.1) = 1 ∧ pop (sIn S.2.2.1 0) < drm S.2.2.1) → P_X11_lots_152 G (nI n) (lN (stp x)) (nI j) M1 Q := fun a b => by
      have lw := lot_w a b
      have t28 := twos_len (D := S.2.2.1) h8
      refine v_X11_lots_152 ?_
      rw [l1, nI_1]
      cases q : (twos S.2.2.1)[0]? with
      | none =>
        rw [q] at lw
        have z : (twos S.2.2.1).length = 0 := by
          have := List.getElem?_eq_none_iff.mp q
          omega
        rw [z]
        exact br_f (by decide) (m_lot hk hM1 h0 (show lotD S.2.2.1 (stp x) = (0, 0, 0) from lw) (dd0 h0) (by omega) (fun M2 hM2 e2 => go M2 (e1'.tr e2) hM2) rfl rfl rfl)
      | some p =>
        rw [q] at lw
        have tk := twos_ok S.2.2.1 p (List.mem_of_getElem? q)
        have z : 0 < (twos S.2.2.1).length := by
          rcases Nat.eq_zero_or_pos (twos S.2.2.1).length with c | c
          · rw [List.getElem?_eq_none (by omega)] at q; cases q
          · exact c
        obtain ⟨p1, p2⟩ := pk10 (a := p.1) (b := p.2) (by omega) (by omega)
        rw [show (0 : Int32).toNatClampNeg = 0 from rfl, t1 0 p q, p2, p1]
        refine br_t (show nI 0 < nI (twos S.2.2.1).length from nI_lt z (by omega)) ⟨vin (n := 0) (by decide), vin (n := 0) (by decide), ?_⟩
        exact m_lot hk hM1 h0 (show lotD S.2.2.1 (stp x) = (1, p.1, p.2) from lw) (ddw (by omega) tk.2.1 (by omega)) (by omega) (fun M2 hM2 e2 => go M2 (e1'.tr e2) hM2) rfl rfl rfl
    have bk : ¬ (whO (dL S.2.2.1) (stp x / 8 % dn S.2.2.1) = 0 ∧ ¬ gK (glD S.2.2.1 (stp x / 8 % dn S.2.2.1)) = 3) → P_X11_lots_119 G (nI n) (lN (stp x)) (nI j) (nI (stp x / 8 % dn S.2.2.1)) M1 Q := fun a => by
      refine v_X11_lots_119 ⟨vin (by omega), ?_⟩
      have pl := pop_le (sIn S.2.2.1 0)
      have rm := hk.2.2.1.2.1
      rw [ncl (by omega), hM1.wh hi, show (1 : Int32) = nI 1 from rfl, wh_iff (by decide)]
      refine ⟨fun c => m_many_in hk.2.2.1 hM1.2.2.1 (RI.mk ?_), fun c => tw a fun q => c q.1⟩
      rw [hM1.2.2.1.2.1, nI_ltI (by omega) (by omega)]
      refine ⟨fun d => ?_, fun d => tw a fun q => d q.2⟩
      have lw : lotD S.2.2.1 (stp x) = (3, stp x / 8 % dn S.2.2.1, stp x / 8 % dn S.2.2.1) := by unfold lotD; rw [if_neg a, if_pos ⟨c, d⟩]
      rw [nI_add]
      exact m_lot hk hM1 h0 lw (dd1 (by decide) (by decide) hi) (by omega) (fun M2 hM2 e2 => go M2 (e1'.tr e2) hM2) rfl rfl rfl
    rw [ncl (by omega), hM1.wh hi, wh0, (hM1.gl hi).1, k3 ok1.1]
    refine ⟨vin (by omega), fun c => ⟨vin (by omega), fun d => bk fun q => q.2 d, fun d => ?_⟩, fun c => bk fun q => c q.1⟩
    have lw : lotD S.2.2.1 (stp x) = (2, stp x / 8 % dn S.2.2.1, stp x / 8 % dn S.2.2.1) := by unfold lotD; rw [if_pos ⟨c, d⟩]
    exact m_lot hk hM1 h0 lw (dd1 (by decide) (by decide) hi) (by omega) (fun M2 hM2 e2 => go M2 (e1'.tr e2) hM2) rfl rfl rfl
/-- promise 36 -/
theorem law_lots (hB : Bo M) (x y : Int32) : C_X10_lots G x y M (RI fun r M1 => C_X11_lots G x y M1 (RI fun r2 M2 => r = r2 ∧ Bo M2)) := by
  obtain ⟨S, hk, hC, hM⟩ := id hB
  have h8 := hk.2.2.1.1
  have h40 := hk.2.2.1.2.2.2.1
  have bad1 : (x < 1 ∨ nI 20 < x) → C_X11_lots G x y M (RI fun r2 M2 => (-1 : Int32) = r2 ∧ Bo M2) := fun hx => v_X11_lots (m_in_n hx (RI.mk (br_t rfl (RI.mk ⟨rfl, hB⟩))))
  by_cases x1 : x < 1
  · exact v_X10_lots (br_t x1 (RI.mk (bad1 (Or.inl x1))))
  by_cases x2 : nI 20 < x
  · exact v_X10_lots (br_f x1 (br_t x2 (RI.mk (bad1 (Or.inr x2)))))
  obtain ⟨n, hn, rfl⟩ := nI_of (x := x) (fun q => x1 (Int32.lt_of_lt_of_le q (by decide)))
  have n1 : 1 ≤ n := by
    rcases Nat.eq_zero_or_pos n with c | c
    · rw [c] at x1; exact absurd (by decide) x1
    · exact c
  have n20 : n ≤ 20 := by
    rcases Nat.lt_or_ge 20 n with c | c
    · exact absurd (nI_lt c hn) x2
    · exact c
  have inX : ∀ {M : Mem} {Q : Option Value → Mem → Prop}, Q (some (.int 1)) M → C_X11_in G (nI n) 1 20 M Q := fun h => m_in_y x1 x2 h
  have bad2 : (y < 1 ∨ nI 2147483646 < y) → C_X11_lots G (nI n) y M (RI fun r2 M2 => (-1 : Int32) = r2 ∧ Bo M2) := fun hy => v_X11_lots (inX (RI.mk (br_f (by decide) (m_in_n hy (RI.mk (br_t rfl (RI.mk ⟨rfl, hB⟩)))))))
  refine v_X10_lots (br_f x1 (br_f x2 ?_))
  by_cases y1 : y < 1
  · exact br_t y1 (RI.mk (bad2 (Or.inl y1)))
  refine br_f y1 ?_
  obtain ⟨s, hs, rfl⟩ := nI_of (x := y) (fun q => y1 (Int32.lt_of_lt_of_le q (by decide)))
  rw [lg_cmp_lt, nI_l hs, show (2147483647 : Int64) = lN 2147483647 from rfl, pk_lLT (by omega) (by decide)]
  refine ⟨fun c => ?_, fun c => RI.mk (bad2 (Or.inr (nI_lt (by omega) hs)))⟩
  have inY : ∀ {M : Mem} {Q : Option Value → Mem → Prop}, Q (some (.int 1)) M → C_X11_in G (nI s) 1 2147483646 M Q := fun h => m_in_y y1 (show ¬ nI 2147483646 < nI s from nI_nlt (by omega) (by omega)) h
  rw [hC.nz, dn0 h8]
  refine ⟨fun d => RI.mk (v_X11_lots (inX (RI.mk (br_f (by decide) (inY (RI.mk (br_f (by decide) ?_))))))), fun d => left_ok hC.nd h40 (RI.mk ?_)⟩
  · rw [hM.nz, dn0 h8]
    exact br_t d (RI.mk ⟨rfl, hB⟩)
  rw [nI_ltI (by omega) (by omega)]
  have tail : ∀ {M1 : Mem} {Q : Option Value → Mem → Prop}, RM S M1 → ((40 < (dL S.2.2.1).length + n → Q (some (.int (-2 : Int32))) M1) ∧ (¬ 40 < (dL S.2.2.1).length + n → P_X11_lots_53 G (nI n) (lN s) 0 M1 Q)) → C_X11_lots G (nI n) (nI s) M1 Q := fun hM1 h => by
    refine v_X11_lots (inX (RI.mk (br_f (by decide) (inY (RI.mk (br_f (by decide) ?_))))))
    rw [hM1.nz, dn0 h8, hM1.nd, nI_add, show (40 : Int32) = nI 40 from rfl, nI_ltI (by omega) (by omega), nI_l hs]
    exact br_f d h
  refine ⟨fun e => RI.mk (tail hM (br_t (by omega) (RI.mk ⟨rfl, hB⟩))), fun e => ?_⟩
  refine l63_loop n20 n 0 S s M (by omega) hk hC (by omega) (by omega) (by omega) fun M1 hC1 e1 => RI.mk (tail (hM.oth e1) (br_f (by omega) ?_))
  have hk' := lotN_ok n S s hk (by omega) (by omega)
  exact l53_loop n20 n 0 S s M1 (by omega) hk (hM.oth e1) (by omega) (by omega) (by omega) fun M2 hM2 e2 => RI.mk ⟨rfl, Bo.mk hk' (hC1.oth hk' e2) hM2⟩
end LOM
