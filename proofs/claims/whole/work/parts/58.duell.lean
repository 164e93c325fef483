/-! promise 33, the law -/
section DUL
variable {G : Glob} {M : Mem} {Q : Option Value → Mem → Prop} {S : St} {D : Dr} {n ins N last w c : Nat}
abbrev E94 : Mem → Mem → Prop := Eqv (fun a _ => a = 94)
/-- what is reckoned so far: all with more than T taken, those with T below C -/
def WI (D : Dr) (ins N last : Nat) (M : Mem) (T C : Nat) : Prop := ∀ c, c < 3 ^ dn D → (∀ i, (gn (dn D) c).testBit i = true → ins.testBit i = true) → (T < tkn (dn D) c ∧ tkn (dn D) c ≤ last) ∨ (tkn (dn D) c = T ∧ c < C) → M.1 94 c = iI (FV D ins N c)
theorem sgn_bd {w : Nat} {x : Int} (h : -192 ≤ x ∧ x ≤ 192) : -192 ≤ sgn w x ∧ sgn w x ≤ 192 := by
  unfold sgn
  split <;> omega
theorem fr_n (hn : n ≤ 8) {m o : Nat} (hi : ins < 2 ^ n) (h : Okp ins m o) : fr ins m o < 2 ^ n := sub_lt hi fun i q => by
  rw [fr_tb h] at q
  cases z : ins.testBit i
  · rw [z] at q; simp at q
  · rfl
theorem bt_loop (hk : DOk D) (hz : M.1 71 20 = nI (dn D)) (hins : ins < 2 ^ dn D) {T t : Nat} (hc : c < 3 ^ dn D) (hsub : ∀ i, (gn (dn D) c).testBit i = true → ins.testBit i = true) (hT : tkn (dn D) c = T) (hN : N = T + t + 1) (hl : T < last) (hW : WI D ins N last M T 0) (hf : ¬ fr ins (hs (dn D) (1 + T % 2) c) (hs (dn D) (2 - T % 2) c) = 0)
    (h : Q (some (.int (iI (FV D ins N c)))) M) :
    ∀ (k i : Nat) (F A : Int32), i + k = dn D →
    ((A = 0 ∧ F = 0 ∧ mxl (fun i => -(vl D t (hs (dn D) (2 - T % 2) c) (hs (dn D) (1 + T % 2) c ||| 2 ^ i) (fr ins (hs (dn D) (1 + T % 2) c) (hs (dn D) (2 - T % 2) c) ^^^ 2 ^ i))) (fr ins (hs (dn D) (1 + T % 2) c) (hs (dn D) (2 - T % 2) c)) i = -1000000) ∨
     (A = 1 ∧ F = iI (sgn (T % 2) (mxl (fun i => -(vl D t (hs (dn D) (2 - T % 2) c) (hs (dn D) (1 + T % 2) c ||| 2 ^ i) (fr ins (hs (dn D) (1 + T % 2) c) (hs (dn D) (2 - T % 2) c) ^^^ 2 ^ i))) (fr ins (hs (dn D) (1 + T % 2) c) (hs (dn D) (2 - T % 2) c)) i)) ∧ -192 ≤ mxl (fun i => -(vl D t (hs (dn D) (2 - T % 2) c) (hs (dn D) (1 + T % 2) c ||| 2 ^ i) (fr ins (hs (dn D) (1 + T % 2) c) (hs (dn D) (2 - T % 2) c) ^^^ 2 ^ i))) (fr ins (hs (dn D) (1 + T % 2) c) (hs (dn D) (2 - T % 2) c)) i ∧ mxl (fun i => -(vl D t (hs (dn D) (2 - T % 2) c) (hs (dn D) (1 + T % 2) c ||| 2 ^ i) (fr ins (hs (dn D) (1 + T % 2) c) (hs (dn D) (2 - T % 2) c) ^^^ 2 ^ i))) (fr ins (hs (dn D) (1 + T % 2) c) (hs (dn D) (2 - T % 2) c)) i ≤ 192)) →
    P_X11_bestTurn_9 G (nI c) (nI (fr ins (hs (dn D) (1 + T % 2) c) (hs (dn D) (2 - T % 2) c))) (nI (T % 2)) F A (nI i) M Q := by
  have h8 := hk.1
  have hw : T % 2 < 2 := Nat.mod_lt _ (by decide)
  have ok := ok_w (w := T % 2) (ok_of hsub) hw
  have ok1 := ok_of hsub
  have p3 := p3_le h8
  generalize hm : hs (dn D) (1 + T % 2) c = m at *
  generalize ho : hs (dn D) (2 - T % 2) c = o at *
  have hfn : fr ins m o < 2 ^ dn D := fr_n h8 hins ok
  have p2 := p2_257 h8
  have hv : ∀ i, i < 8 → -192 ≤ -(vl D t o (m ||| 2 ^ i) (fr ins m o ^^^ 2 ^ i)) ∧ -(vl D t o (m ||| 2 ^ i) (fr ins m o ^^^ 2 ^ i)) ≤ 192 := fun i hi => by
    have := vl_bd hk t o (m ||| 2 ^ i) (fr ins m o ^^^ 2 ^ i) (xor_lt8 (by omega) hi)
    omega
  have e0 : FV D ins N c = sgn (T % 2) (vl D (t + 1) m o (fr ins m o)) := by
    unfold FV
    rw [hT, hm, ho, show N - T = t + 1 by omega]
  rw [e0, vl_s D hf] at h
  generalize hV : (fun i => -(vl D t o (m ||| 2 ^ i) (fr ins m o ^^^ 2 ^ i))) = V at *
  have hV1 : ∀ i, V i = -(vl D t o (m ||| 2 ^ i) (fr ins m o ^^^ 2 ^ i)) := fun i => by rw [← hV]
  intro k
  induction k with
  | zero =>
    intro i F A hi hFA
    have : i = dn D := by omega
    subst this
    refine v_X11_bestTurn_9 ?_
    rw [hz]
    refine br_f (nI_nlt (Nat.le_refl _) (by omega)) ?_
    have e8 : mxl V (fr ins m o) 8 = mxl V (fr ins m o) (dn D) := by
      have := mxl_hi (v := V) (f := fr ins m o) (n := dn D) (fun k hk2 => tb_hi hfn hk2) (8 - dn D)
      rw [show dn D + (8 - dn D) = 8 by omega] at this
      exact this
    rw [e8] at h
    rcases hFA with ⟨_, _, z⟩ | ⟨_, z, _⟩
    · exfalso
      obtain ⟨j, hj, hb, _⟩ := tb_ex (fr ins m o) (by omega) (by omega)
      have g1 := mxl_ge V (fr ins m o) (dn D) j (tb_dn hfn hb) hb
      have g2 := hv j hj
      rw [hV1] at g1
      omega
    · rw [z]; exact h
  | succ k ih =>
    intro i F A hi hFA
    have hi2 : i < dn D := by omega
    refine v_X11_bestTurn_9 ?_
    rw [hz, tb_sh1 _ (by omega) i (by omega), nI_1]
    refine br_t (nI_lt hi2 (by omega)) ⟨fun b => unit_ok (by omega) (RI.mk ?_), fun b => ?_⟩
    · have b2 := b
      rw [fr_tb ok] at b2
      have d0 : dig c i = 0 := by
        have a1 := hs_tb (dn D) (1 + T % 2) c i
        have a2 := hs_tb (dn D) (2 - T % 2) c i
        rw [hm] at a1
        rw [ho] at a2
        have d3 := dig_lt c i
        cases q1 : m.testBit i
        · cases q2 : o.testBit i
          · rw [q1, decide_eq_true hi2, Bool.true_and] at a1
            rw [q2, decide_eq_true hi2, Bool.true_and] at a2
            have n1 := beq_eq_false_iff_ne.mp a1.symm
            have n2 := beq_eq_false_iff_ne.mp a2.symm
            omega
          · rw [q2] at b2; simp at b2
        · rw [q1] at b2; simp at b2
      obtain ⟨s1, s2, s3⟩ := ok.add b
      obtain ⟨g1, g2⟩ := hs_add (n := dn D) (w := T % 2) (c := c) hi2 hw d0
      have hc2 := add_lt (n := dn D) (d := 1 + T % 2) hi2 hc (by omega) d0
      rw [hm] at g1
      rw [ho] at g2
      have pa := pop_add m (sub_lt (k := 8) (Nat.lt_of_lt_of_le hins p2) fun i q => ok.2 i (Or.inl q)) i (by omega) s2
      have tk : tkn (dn D) (c + (1 + T % 2) * 3 ^ i) = T + 1 := by
        rw [← pop_w (dn D) _ hw, g1, g2, pa]
        have := pop_w (dn D) c hw
        rw [hm, ho, hT] at this
        omega
      have sub2 : ∀ j, (gn (dn D) (c + (1 + T % 2) * 3 ^ i)).testBit j = true → ins.testBit j = true := fun j hj => by
        rw [gn_tb, dig_add (by omega) d0] at hj
        by_cases e : j = i
        · subst e
          cases q : ins.testBit j
          · rw [q] at b2; simp at b2
          · rfl
        · rw [if_neg e] at hj
          exact hsub j (by rw [gn_tb]; exact hj)
      have val := hW _ hc2 sub2 (Or.inl (by omega))
      have fv : FV D ins N (c + (1 + T % 2) * 3 ^ i) = sgn (T % 2) (V i) := by
        unfold FV
        rw [tk, hV1, show N - (T + 1) = t by omega]
        have w2 : T % 2 = 0 ∨ T % 2 = 1 := by omega
        rcases w2 with e | e
        · rw [e] at g1 g2 ⊢
          rw [show (T + 1) % 2 = 1 by omega, show 1 + 1 = 2 - 0 from rfl, g2, show 2 - 1 = 1 + 0 from rfl, g1, s3]
          rfl
        · rw [e] at g1 g2 ⊢
          rw [show (T + 1) % 2 = 0 by omega, show 1 + 0 = 2 - 1 from rfl, g2, show 2 - 0 = 1 + 1 from rfl, g1, s3]
          unfold sgn
          simp
      rw [fv] at val
      rw [show (1 : Int32) = nI 1 from rfl, nI_add, pk_mul, nI_add, ncl (by omega), val]
      have hvi := hv i (by omega)
      rw [← hV1] at hvi
      have hsg := sgn_bd (w := T % 2) hvi
      refine ⟨vin (by omega), ?_⟩
      rintro _ rfl
      have ih1 := ih (i + 1)
      rw [mxl_y b] at ih1
      rcases hFA with ⟨rfl, rfl, z⟩ | ⟨rfl, rfl, z1, z2⟩
      · refine br_t rfl (ih1 _ _ (by omega) (Or.inr ⟨rfl, ?_, ?_⟩))
        · rw [z, if_pos (by omega)]
        · rw [z, if_pos (by omega)]; exact hvi
      · have hsg2 := sgn_bd (w := T % 2) ⟨z1, z2⟩
        refine br_f (by decide) ⟨fun d => ?_, fun d => ?_⟩
        · have d' : T % 2 = 0 := (nI_eq (by omega) (by decide)).mp d
          have sx : ∀ x, sgn (T % 2) x = x := fun x => if_pos d'
          rw [sx, sx, iI_lt (by omega) (by omega) (by omega) (by omega)]
          refine ⟨fun g => ih1 _ _ (by omega) (Or.inr ⟨rfl, ?_, ?_⟩), fun g => ih1 _ _ (by omega) (Or.inr ⟨rfl, ?_, ?_⟩)⟩
          · rw [if_pos g, sx]
          · rw [if_pos g]; exact hvi
          · rw [if_neg g, sx]
          · rw [if_neg g]; exact ⟨z1, z2⟩
        · have d' : ¬ T % 2 = 0 := fun q => d (by rw [q]; rfl)
          have sx : ∀ x, sgn (T % 2) x = -x := fun x => if_neg d'
          rw [sx, sx, iI_lt (by omega) (by omega) (by omega) (by omega)]
          refine ⟨fun g => ih1 _ _ (by omega) (Or.inr ⟨rfl, ?_, ?_⟩), fun g => ih1 _ _ (by omega) (Or.inr ⟨rfl, ?_, ?_⟩)⟩
          · rw [if_pos (by omega), sx]
          · rw [if_pos (by omega)]; exact hvi
          · rw [if_neg (by omega), sx]
          · rw [if_neg (by omega)]; exact ⟨z1, z2⟩
    · have ih1 := ih (i + 1)
      rw [mxl_n (tbf' b)] at ih1
      exact ih1 F A (by omega) hFA
end DUL
