/-! promises 37 to 43: what is told -/
section TLD
variable {G : Glob} {M : Mem} {Q : Option Value → Mem → Prop} {S : St} {D : Dr} {n : Nat} {th N mx fl zb rb : Nat} {s : RSt}
/-! counts -/
theorem bnf {b : Bool} (h : ¬ b = false) : b = true := by
  cases b
  · exact absurd rfl h
  · rfl
def thr (s : RSt) : Nat → Nat := ct fun r => (s.1 r).isSome
def kct (K : Ke) : Nat → Nat := ct fun k => (K k).isSome
def cvl (S : St) : Nat → Int32
  | 0 => nI (dn S.2.2.1)
  | 1 => nI (drm S.2.2.1)
  | 2 => nI (dL S.2.2.1).length
  | 3 => nI (sIn S.2.2.1 0)
  | 4 => nI (sIn S.2.2.1 1)
  | 5 => nI (sIn S.2.2.1 2)
  | 6 => sm (fun i => nI (wrO (dL S.2.2.1) i)) (dn S.2.2.1)
  | 7 => nI (ct (fun i => isN (gK (glD S.2.2.1 i)) 1) (dn S.2.2.1))
  | 8 => nI (thr S.1 6)
  | 9 => nI (thr S.2.1 4)
  | _ => nI (kct S.2.2.2.1 3)
theorem ct_y {p : Nat → Bool} {n : Nat} (h : p n = true) : ct p (n + 1) = ct p n + 1 := by
  show ct p n + (if p n = true then 1 else 0) = _
  rw [if_pos h]
theorem ct_n {p : Nat → Bool} {n : Nat} (h : p n = false) : ct p (n + 1) = ct p n := by
  show ct p n + (if p n = true then 1 else 0) = _
  rw [if_neg (by rw [h]; decide)]
  rfl
theorem c_there (hp : RPk th N mx fl zb rb) (hs : RowsC th N mx fl zb rb s M) (hk : ROk N mx s) (h : Q (some (.int (nI (thr s N)))) M) : C_X9_howManyThere G th M Q := by
  obtain ⟨f1, f2, f3, f4, f5, f6, f7, f8, f9, -⟩ := hp.facts
  have lp : ∀ (k r : Nat), r + k = N → P_X9_howManyThere_4 G th (nI (thr s r)) (nI r) M Q := by
    intro k
    induction k with
    | zero =>
      intro r hr
      have : r = N := by omega
      subst this
      refine v_X9_howManyThere_4 f1 ?_
      rw [f2, f3]
      exact br_f (nI_nlt (Nat.le_refl _) (by omega)) h
    | succ k ih =>
      intro r hr
      have ih1 := ih (r + 1) (by omega)
      refine v_X9_howManyThere_4 f1 ?_
      rw [f2, f3]
      refine br_t (nI_lt (by omega) (by omega)) (there_ok hp hs hk (by omega) (RI.mk ⟨fun c => ?_, fun c => ?_⟩))
      · rw [nI_1]
        rw [show thr s (r + 1) = thr s r from ct_n (bI_0.mp c)] at ih1
        exact ih1
      · rw [nI_1, nI_1]
        rw [show thr s (r + 1) = thr s r + 1 from ct_y (bI_n0.mp c)] at ih1
        exact ih1
  exact v_X9_howManyThere f1 (lp N 0 (by omega))
theorem kS {K : Ke} (hk : KOk n K) {k : Nat} (h : k < 3) : ∀ v, (K k).map List.length = some v → v < 2 ^ 31 := fun v hv => by
  cases q : K k with
  | none => rw [q] at hv; cases hv
  | some L =>
    rw [q] at hv
    cases hv
    have := (hk k h L q).1.1
    omega
theorem c_kept (hk : SOk S) (hC : RC S M) (h : Q (some (.int (nI (kct S.2.2.2.1 3)))) M) : C_X10_howManyKept G M Q := by
  have lp : ∀ (j k : Nat), k + j = 3 → P_X10_howManyKept_4 G (nI (kct S.2.2.2.1 k)) (nI k) M Q := by
    intro j
    induction j with
    | zero =>
      intro k hk3
      have : k = 3 := by omega
      subst this
      exact v_X10_howManyKept_4 (br_f (by decide) h)
    | succ j ih =>
      intro k hk3
      have ih1 := ih (k + 1) (by omega)
      refine v_X10_howManyKept_4 (br_t (show nI k < nI 3 from nI_lt (by omega) (by decide)) ⟨vin (by omega), ?_⟩)
      rw [ncl (by omega), (hC.2.2.2.1 k (by omega)).1, oS_m1 (kS hk.2.2.2 (by omega)), nI_1 k, nI_1]
      refine ⟨fun c => ?_, fun c => ?_⟩
      · rw [show kct S.2.2.2.1 (k + 1) = kct S.2.2.2.1 k from ct_n (by rw [Option.map_eq_none_iff.mp c]; rfl)] at ih1
        exact ih1
      · rw [show kct S.2.2.2.1 (k + 1) = kct S.2.2.2.1 k + 1 from ct_y (by
          cases q : S.2.2.2.1 k with
          | none => rw [q] at c; exact absurd rfl c
          | some L => rfl)] at ih1
        exact ih1
  exact v_X10_howManyKept (lp 3 0 (by omega))
theorem c_wear (hk : SOk S) (hC : RC S M) (h : Q (some (.int (sm (fun i => nI (wrO (dL S.2.2.1) i)) (dn S.2.2.1)))) M) : C_X3_allWear G M Q := by
  have h8 := hk.2.2.1.1
  have lp : ∀ (k i : Nat), i + k = dn S.2.2.1 → P_X3_allWear_4 G (sm (fun i => nI (wrO (dL S.2.2.1) i)) i) (nI i) M Q := by
    intro k
    induction k with
    | zero =>
      intro i hi
      have : i = dn S.2.2.1 := by omega
      subst this
      refine v_X3_allWear_4 ?_
      rw [hC.nz]
      exact br_f (nI_nlt (Nat.le_refl _) (by omega)) h
    | succ k ih =>
      intro i hi
      have ih1 := ih (i + 1) (by omega)
      refine v_X3_allWear_4 ?_
      rw [hC.nz, ncl (by omega), (hC.gl (show i < dn S.2.2.1 by omega)).2.2.2.2, nI_1]
      refine br_t (nI_lt (by omega) (by omega)) ⟨vin (by omega), ?_⟩
      rintro _ rfl
      exact ih1
  exact v_X3_allWear (lp (dn S.2.2.1) 0 (by omega))
theorem c_of (hk : SOk S) (hC : RC S M) (h : Q (some (.int (nI (ct (fun i => isN (gK (glD S.2.2.1 i)) 1) (dn S.2.2.1))))) M) : C_X3_howManyOf G 1 M Q := by
  have h8 := hk.2.2.1.1
  have lp : ∀ (k i : Nat), i + k = dn S.2.2.1 → P_X3_howManyOf_4 G 1 (nI (ct (fun i => isN (gK (glD S.2.2.1 i)) 1) i)) (nI i) M Q := by
    intro k
    induction k with
    | zero =>
      intro i hi
      have : i = dn S.2.2.1 := by omega
      subst this
      refine v_X3_howManyOf_4 ?_
      rw [hC.nz]
      exact br_f (nI_nlt (Nat.le_refl _) (by omega)) h
    | succ k ih =>
      intro i hi
      have hi2 : i < dn S.2.2.1 := by omega
      have ih1 := ih (i + 1) (by omega)
      refine v_X3_howManyOf_4 ?_
      rw [hC.nz, ncl (by omega), nI_1 i, nI_1]
      refine br_t (nI_lt (by omega) (by omega)) ⟨vin (by omega), isOf_ok (c := 1) (kd8 hk.2.2.1 hi2) (hC.gl hi2) (glD_ok hk.2.2.1 hi2) (by decide) (RI.mk ⟨fun c => ?_, fun c => ?_⟩)⟩
      · rw [ct_n (p := fun i => isN (gK (glD S.2.2.1 i)) 1) (bI_0.mp c)] at ih1; exact ih1
      · rw [ct_y (p := fun i => isN (gK (glD S.2.2.1 i)) 1) (bI_n0.mp c)] at ih1; exact ih1
  exact v_X3_howManyOf (lp (dn S.2.2.1) 0 (by omega))
theorem lt11 {k : Nat} (h : k < 11) : k = 0 ∨ k = 1 ∨ k = 2 ∨ k = 3 ∨ k = 4 ∨ k = 5 ∨ k = 6 ∨ k = 7 ∨ k = 8 ∨ k = 9 ∨ k = 10 := by omega
theorem c_cnt (hk : SOk S) (hC : RC S M) {k : Nat} (hk11 : k < 11) (h : Q (some (.int (cvl S k))) M) : C_X10_count G (nI k) M Q := by
  refine v_X10_count ?_
  rcases lt11 hk11 with rfl | rfl | rfl | rfl | rfl | rfl | rfl | rfl | rfl | rfl | rfl
  · exact br_t rfl (by rw [hC.nz]; exact h)
  · exact br_f (by decide) (br_t rfl (by rw [hC.2.2.1.2.1]; exact h))
  · exact br_f (by decide) (br_f (by decide) (br_t rfl (by rw [hC.nd]; exact h)))
  · exact br_f (by decide) (br_f (by decide) (br_f (by decide) (br_t rfl (set_ok (w := 0) hk.2.2.1 hC.2.2.1 (by decide) (RI.mk h)))))
  · exact br_f (by decide) (br_f (by decide) (br_f (by decide) (br_f (by decide) (br_t rfl (set_ok (w := 1) hk.2.2.1 hC.2.2.1 (by decide) (RI.mk h))))))
  · exact br_f (by decide) (br_f (by decide) (br_f (by decide) (br_f (by decide) (br_f (by decide) (br_t rfl (set_ok (w := 2) hk.2.2.1 hC.2.2.1 (by decide) (RI.mk h)))))))
  · exact br_f (by decide) (br_f (by decide) (br_f (by decide) (br_f (by decide) (br_f (by decide) (br_f (by decide) (br_t rfl (c_wear hk hC (RI.mk h))))))))
  · exact br_f (by decide) (br_f (by decide) (br_f (by decide) (br_f (by decide) (br_f (by decide) (br_f (by decide) (br_f (by decide) (br_t rfl (c_of hk hC (RI.mk h)))))))))
  · exact br_f (by decide) (br_f (by decide) (br_f (by decide) (br_f (by decide) (br_f (by decide) (br_f (by decide) (br_f (by decide) (br_f (by decide) (br_t rfl (c_there RPk.R hC.1 hk.1 (RI.mk h))))))))))
  · exact br_f (by decide) (br_f (by decide) (br_f (by decide) (br_f (by decide) (br_f (by decide) (br_f (by decide) (br_f (by decide) (br_f (by decide) (br_f (by decide) (br_t rfl (c_there RPk.T hC.2.1 hk.2.1 (RI.mk h)))))))))))
  · exact br_f (by decide) (br_f (by decide) (br_f (by decide) (br_f (by decide) (br_f (by decide) (br_f (by decide) (br_f (by decide) (br_f (by decide) (br_f (by decide) (br_f (by decide) (br_t rfl (c_kept hk hC (RI.mk h))))))))))))
theorem nx {x : Int32} (h : ¬ ∃ j : Nat, j < 11 ∧ x = nI j) {j : Nat} (hj : j < 11) : ¬ x = nI j := fun e => h ⟨j, hj, e⟩
theorem c_cnt_n {x : Int32} (hx : ¬ ∃ j : Nat, j < 11 ∧ x = nI j) (h : Q (some (.int (-1))) M) : C_X10_count G x M Q :=
  v_X10_count (br_f (nx hx (j := 0) (by decide)) (br_f (nx hx (j := 1) (by decide)) (br_f (nx hx (j := 2) (by decide)) (br_f (nx hx (j := 3) (by decide)) (br_f (nx hx (j := 4) (by decide)) (br_f (nx hx (j := 5) (by decide)) (br_f (nx hx (j := 6) (by decide)) (br_f (nx hx (j := 7) (by decide)) (br_f (nx hx (j := 8) (by decide)) (br_f (nx hx (j := 9) (by decide)) (br_f (nx hx (j := 10) (by decide)) h)))))))))))
theorem i0 (x : Int32) : x + 0 = x := Int32.add_zero x
theorem oS_ls {o : Option Nat} (ho : ∀ v, o = some v → v < 2 ^ 31) : (oS o < 0 ↔ o.isSome = false) := by
  rw [oS_neg ho]
  cases o <;> simp
end TLD
