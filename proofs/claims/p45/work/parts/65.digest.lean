/-! promise 43: the digest -/
section DGS
variable {G : Glob} {M : Mem} {Q : Option Value → Mem → Prop} {S : St} {D : Dr} {n : Nat} {th N mx fl zb rb : Nat} {s : RSt}
/-- so many of a row are gone through -/
def fo (f : Nat → Int32) : Nat → Int64 → Int64
  | 0, h => h
  | n + 1, h => 31 * fo f n h + (f n).toInt64
def fdg (g : Nat → Int64 → Int64) : Nat → Int64 → Int64
  | 0, h => h
  | n + 1, h => g n (fdg g n h)
def dgR (s : RSt) (r : Nat) (h : Int64) : Int64 := fo (s.2 r) ((s.1 r).getD 0) (31 * h + (oS (s.1 r)).toInt64)
def dgG (S : St) (i : Nat) (h : Int64) : Int64 := fo (fun w => nI (tlV (glD S.2.2.1 i) (whO (dL S.2.2.1) i) w)) 7 h
def dg1 (S : St) : Int64 := fo (cvl S) 11 17
def dg2 (S : St) : Int64 := fdg (dgG S) (dn S.2.2.1) (dg1 S)
def dg3 (S : St) : Int64 := fo (fun k => oS ((S.2.2.2.1 k).map List.length)) 3 (dg2 S)
def dg4 (S : St) : Int64 := fdg (dgR S.1) 6 (dg3 S)
def dg5 (S : St) : Int64 := fdg (dgR S.2.1) 4 (dg4 S)
theorem c_don (hp : RPk th N mx fl zb rb) (hs : RowsC th N mx fl zb rb s M) (hk : ROk N mx s) {h0 : Int64} (h : Q (some (.long (fdg (dgR s) N h0))) M) : C_X9_digestOn G th h0 M Q := by
  obtain ⟨f1, f2, f3, f4, f5, f6, f7, f8, f9, -⟩ := hp.facts
  have inner : ∀ (r : Nat), r < N → P_X9_digestOn_2 G th (dgR s r (fdg (dgR s) r h0)) (nI (r + 1)) M Q → ∀ (k i : Nat), i + k = (s.1 r).getD 0 → P_X9_digestOn_28 G th (fo (s.2 r) i (31 * fdg (dgR s) r h0 + (oS (s.1 r)).toInt64)) (nI r) (nI i) M Q := by
    intro r hr hn k
    induction k with
    | zero =>
      intro i hi
      refine v_X9_digestOn_28 f1 ?_
      rw [f2, f3, ncl (by omega), (hs.2.2 r hr).1, nI_1 r]
      refine ⟨vin hr (by omega), ?_⟩
      cases q : s.1 r with
      | none =>
        unfold dgR at hn
        rw [q] at hn hi
        have i0 : i = 0 := by have : (none : Option Nat).getD 0 = 0 := rfl; omega
        subst i0
        exact br_f (by decide) hn
      | some n =>
        have := hk r hr n q
        unfold dgR at hn
        rw [q] at hn hi
        have i0 : i = n := by have : (some n : Option Nat).getD 0 = n := rfl; omega
        subst i0
        exact br_f (show ¬ nI i < nI i from nI_nlt (Nat.le_refl _) (by omega)) hn
    | succ k ih =>
      intro i hi
      have ih1 := ih (i + 1) (by omega)
      refine v_X9_digestOn_28 f1 ?_
      rw [f2, f3, ncl (by omega), (hs.2.2 r hr).1, nI_1 i]
      refine ⟨vin hr (by omega), ?_⟩
      cases q : s.1 r with
      | none => rw [q] at hi; exact absurd hi (by show ¬ i + (k + 1) = 0; omega)
      | some n =>
        have := hk r hr n q
        rw [q] at hi
        have hin : i < n := by have : (some n : Option Nat).getD 0 = n := rfl; omega
        rw [q] at ih1
        refine br_t (show nI i < nI n from nI_lt hin (by omega)) (read_ok hp hs hk hr q hin (RI.mk ?_))
        exact ih1
  have lp : ∀ (k r : Nat), r + k = N → P_X9_digestOn_2 G th (fdg (dgR s) r h0) (nI r) M Q := by
    intro k
    induction k with
    | zero =>
      intro r hr
      have : r = N := by omega
      subst this
      refine v_X9_digestOn_2 f1 ?_
      rw [f2, f3]
      exact br_f (nI_nlt (Nat.le_refl _) (by omega)) h
    | succ k ih =>
      intro r hr
      refine v_X9_digestOn_2 f1 ?_
      rw [f2, f3, ncl (by omega), (hs.2.2 r (by omega)).1]
      refine br_t (nI_lt (by omega) (by omega)) ⟨vin (by omega) (by omega), ?_⟩
      rintro _ rfl
      exact inner r (by omega) (ih (r + 1) (by omega)) _ 0 (Nat.zero_add _)
  exact v_X9_digestOn f1 (lp N 0 (by omega))
theorem c_dig (hk : SOk S) (hC : RC S M) (h : Q (some (.long (dg5 S))) M) : C_X10_digest G M Q := by
  have h8 := hk.2.2.1.1
  have l4 : ∀ (j k : Nat), k + j = 3 → P_X10_digest_90 G (fo (fun k => oS ((S.2.2.2.1 k).map List.length)) k (dg2 S)) (nI k) M Q := by
    intro j
    induction j with
    | zero =>
      intro k hk3
      have : k = 3 := by omega
      subst this
      exact v_X10_digest_90 (br_f (by decide) (c_don RPk.R hC.1 hk.1 (RJ.mk (c_don RPk.T hC.2.1 hk.2.1 (RJ.mk h)))))
    | succ j ih =>
      intro k hk3
      have ih1 := ih (k + 1) (by omega)
      refine v_X10_digest_90 (br_t (show nI k < nI 3 from nI_lt (by omega) (by decide)) ⟨vin (by omega), ?_⟩)
      rw [ncl (by omega), (hC.2.2.2.1 k (by omega)).1, nI_1]
      rintro _ rfl
      exact ih1
  have l3 : ∀ (i : Nat), i < dn S.2.2.1 → P_X10_digest_33 G (fdg (dgG S) (i + 1) (dg1 S)) (nI (i + 1)) M Q → ∀ (j w : Nat), w + j = 7 → P_X10_digest_47 G (fo (fun w => nI (tlV (glD S.2.2.1 i) (whO (dL S.2.2.1) i) w)) w (fdg (dgG S) i (dg1 S))) (nI i) (nI w) M Q := by
    intro i hi hn j
    induction j with
    | zero =>
      intro w hw
      have : w = 7 := by omega
      subst this
      refine v_X10_digest_47 (br_f (by decide) ?_)
      rw [nI_1]
      exact hn
    | succ j ih =>
      intro w hw
      have ih1 := ih (w + 1) (by omega)
      refine v_X10_digest_47 (br_t (show nI w < nI 7 from nI_lt (by omega) (by decide)) ⟨vin (by omega), ?_⟩)
      rw [ncl (by omega), nI_1]
      exact tell_ok (kd8 hk.2.2.1 hi) (hC.gl hi) (glD_ok hk.2.2.1 hi) (hC.wh hi) (by omega) (RI.mk ih1)
  have l2 : ∀ (k i : Nat), i + k = dn S.2.2.1 → P_X10_digest_33 G (fdg (dgG S) i (dg1 S)) (nI i) M Q := by
    intro k
    induction k with
    | zero =>
      intro i hi
      have : i = dn S.2.2.1 := by omega
      subst this
      refine v_X10_digest_33 ?_
      rw [hC.nz]
      exact br_f (nI_nlt (Nat.le_refl _) (by omega)) (l4 3 0 (by omega))
    | succ k ih =>
      intro i hi
      refine v_X10_digest_33 ?_
      rw [hC.nz]
      exact br_t (nI_lt (by omega) (by omega)) (l3 i (by omega) (ih (i + 1) (by omega)) 7 0 (by omega))
  have l1 : ∀ (j k : Nat), k + j = 11 → P_X10_digest_6 G (fo (cvl S) k 17) (nI k) M Q := by
    intro j
    induction j with
    | zero =>
      intro k hk3
      have : k = 11 := by omega
      subst this
      exact v_X10_digest_6 (br_f (by decide) (l2 (dn S.2.2.1) 0 (by omega)))
    | succ j ih =>
      intro k hk3
      have ih1 := ih (k + 1) (by omega)
      refine v_X10_digest_6 (br_t (show nI k < nI 11 from nI_lt (by omega) (by decide)) ?_)
      rw [nI_1]
      exact c_cnt hk hC (by omega) (RI.mk ih1)
  exact v_X10_digest (l1 11 0 (by omega))
end DGS
