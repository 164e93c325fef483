/-! promise 32: the next one to try it with -/
section TST
variable {G : Glob} {M : Mem} {Q : Option Value → Mem → Prop} {S : St} {D : Dr} {i j r n h set : Nat}
/-- as of a kind, with another one -/
abbrev ocG (D : Dr) (i k : Nat) : Gl := (k, gS (glD D i), gH (glD D i), gW (glD D i), gR (glD D i))
def oc (D : Dr) (i j k : Nat) : Int32 := oI (gw (ocG D i k) (glD D j))
def cnt (set : Nat) (p : Nat → Bool) : Nat → Nat
  | 0 => 0
  | n + 1 => cnt set p n + (if (set.testBit n && p n) = true then 1 else 0)
theorem cnt_le (set : Nat) (p : Nat → Bool) : ∀ n, cnt set p n ≤ n
  | 0 => Nat.le_refl _
  | n + 1 => by
    have := cnt_le set p n
    unfold cnt
    split <;> omega
def gmx (set : Nat) (c : Nat → Nat) : Nat → Nat
  | 0 => 0
  | n + 1 => if set.testBit n = true then (if gmx set c n < c n then c n else gmx set c n) else gmx set c n
theorem gmx_le {set : Nat} {c : Nat → Nat} {B : Nat} (hc : ∀ k, c k ≤ B) : ∀ n, gmx set c n ≤ B
  | 0 => Nat.zero_le _
  | n + 1 => by
    have := gmx_le (set := set) hc n
    have := hc n
    unfold gmx
    split <;> (try split) <;> omega
def cntD (D : Dr) (set i j k : Nat) : Nat := cnt set (fun o => decide (oc D i j o = oc D i j k)) 6
def part (D : Dr) (set i j : Nat) : Nat := gmx set (cntD D set i j) 6
theorem part_le (D : Dr) (set i j : Nat) : part D set i j ≤ 6 := gmx_le (fun _ => cnt_le _ _ _) 6
theorem tbf {m k : Nat} (h : ¬ m.testBit k = false) : m.testBit k = true := by
  cases q : m.testBit k
  · exact absurd q h
  · rfl
theorem tbf' {m k : Nat} (h : ¬ m.testBit k = true) : m.testBit k = false := by
  cases q : m.testBit k
  · rfl
  · exact absurd q h
theorem hml_loop (hs : set < 64) (h38 : ∀ o, o < 6 → M.1 38 o = oc D i j o) {c : Nat} (h : Q (some (.int (nI (cntD D set i j c)))) M) :
    ∀ (k o : Nat), o + k = 6 → P_X5_howManyLike_5 G (nI set) (oc D i j c) (nI (cnt set (fun o => decide (oc D i j o = oc D i j c)) o)) (nI o) M Q := by
  intro k
  induction k with
  | zero =>
    intro o ho
    have : o = 6 := by omega
    subst this
    exact v_X5_howManyLike_5 (br_f (by decide) h)
  | succ k ih =>
    intro o ho
    have ho6 : o < 6 := by omega
    have ih1 := ih (o + 1) (by omega)
    rw [show cnt set (fun o => decide (oc D i j o = oc D i j c)) (o + 1) = cnt set (fun o => decide (oc D i j o = oc D i j c)) o + (if (set.testBit o && decide (oc D i j o = oc D i j c)) = true then 1 else 0) from rfl] at ih1
    refine v_X5_howManyLike_5 ?_
    rw [tb_and set (by omega) o (by omega), ncl (by omega), h38 o ho6, nI_1, nI_1]
    refine br_t (show nI o < nI 6 from nI_lt ho6 (by decide)) ⟨fun b => ?_, fun b => ⟨vin ho6, fun e => ?_, fun e => ?_⟩⟩
    · rw [b, if_neg (by simp), Nat.add_zero] at ih1
      exact ih1
    · rw [tbf b, decide_eq_true e, if_pos (show (true && true) = true from rfl)] at ih1
      exact ih1
    · rw [decide_eq_false e, if_neg (by simp), Nat.add_zero] at ih1
      exact ih1
theorem gp84_loop (hs : set < 64) (h38 : ∀ o, o < 6 → M.1 38 o = oc D i j o) (h : Q (some (.int (nI (part D set i j)))) M) :
    ∀ (k o : Nat), o + k = 6 → P_X5_greatestPart_84 G (nI set) (nI (gmx set (cntD D set i j) o)) (nI o) M Q := by
  intro k
  induction k with
  | zero =>
    intro o ho
    have : o = 6 := by omega
    subst this
    exact v_X5_greatestPart_84 (br_f (by decide) h)
  | succ k ih =>
    intro o ho
    have ho6 : o < 6 := by omega
    have ih1 := ih (o + 1) (by omega)
    have b1 : gmx set (cntD D set i j) o ≤ 6 := gmx_le (fun _ => cnt_le _ _ _) o
    have b2 : cntD D set i j o ≤ 6 := cnt_le _ _ _
    rw [show gmx set (cntD D set i j) (o + 1) = if set.testBit o = true then (if gmx set (cntD D set i j) o < cntD D set i j o then cntD D set i j o else gmx set (cntD D set i j) o) else gmx set (cntD D set i j) o from rfl] at ih1
    refine v_X5_greatestPart_84 ?_
    rw [tb_and set (by omega) o (by omega), ncl (by omega), h38 o ho6, nI_1]
    refine br_t (show nI o < nI 6 from nI_lt ho6 (by decide)) ⟨fun b => ?_, fun b => ⟨vin ho6, v_X5_howManyLike (hml_loop hs h38 (RI.mk ?_) 6 0 (by omega))⟩⟩
    · rw [b, if_neg (by simp)] at ih1
      exact ih1
    · rw [nmx (by omega) (by omega)]
      rintro _ rfl
      rw [if_pos (tbf b)] at ih1
      exact ih1
theorem gp38_loop (hk : SOk S) (M0 : Mem) (hC0 : RC S M0) (hi : i < dn S.2.2.1) (hj : j < dn S.2.2.1) (hs : set < 64) (h : ∀ M', Eqv (fun a _ => a = 37 ∨ a = 38) M0 M' → Q (some (.int (nI (part S.2.2.1 set i j)))) M') :
    ∀ (k o : Nat) (M : Mem), o + k = 6 → Eqv (fun a _ => a = 37 ∨ a = 38) M0 M → M.1 37 1 = nI (gS (glD S.2.2.1 i)) ∧ M.1 37 2 = nI (gH (glD S.2.2.1 i)) ∧ M.1 37 3 = nI (gW (glD S.2.2.1 i)) ∧ M.1 37 4 = nI (gR (glD S.2.2.1 i)) → (∀ p, p < o → M.1 38 p = oc S.2.2.1 i j p) → P_X5_greatestPart_38 G (nI set) (nI j) 0 (nI o) M Q := by
  have h8 := hk.2.2.1.1
  have ok := glD_ok hk.2.2.1 hi
  intro k
  induction k with
  | zero =>
    intro o M ho e hf h38
    have : o = 6 := by omega
    subst this
    exact v_X5_greatestPart_38 (br_f (by decide) (gp84_loop hs h38 (h M e) 6 0 (by omega)))
  | succ k ih =>
    intro o M ho e hf h38
    have ho6 : o < 6 := by omega
    refine v_X5_greatestPart_38 (br_t (show nI o < nI 6 from nI_lt ho6 (by decide)) ?_)
    rintro _ rfl
    have e1 : Eqv (fun a _ => a = 37 ∨ a = 38) M0 (upI M 37 0 (nI o)) := e.upI (Or.inl rfl)
    have hC1 : RC S (upI M 37 0 (nI o)) := hC0.scr hk (e1.mono (by unfold scrC; omega))
    have gl : GlAt (upI M 37 0 (nI o)) 37 (ocG S.2.2.1 i o) := ⟨upI_s _ _ _ _, by rw [upI_n _ _ (by omega)]; exact hf.1, by rw [upI_n _ _ (by omega)]; exact hf.2.1, by rw [upI_n _ _ (by omega)]; exact hf.2.2.1, by rw [upI_n _ _ (by omega)]; exact hf.2.2.2⟩
    rw [ncl (n := j) (by omega), ncl (n := o) (by omega), nI_1]
    refine ⟨vin (by omega), goodWith_ok rfl (kd8 hk.2.2.1 hj) gl ⟨ho6, ok.2⟩ (hC1.gl hj) (glD_ok hk.2.2.1 hj) (RI.mk ⟨vin ho6, ?_⟩)⟩
    rintro _ rfl
    refine ih (o + 1) _ (by omega) (e1.upI (Or.inr rfl)) ⟨?_, ?_, ?_, ?_⟩ fun p hp => ?_
    · rw [upI_n _ _ (by omega), upI_n _ _ (by omega)]; exact hf.1
    · rw [upI_n _ _ (by omega), upI_n _ _ (by omega)]; exact hf.2.1
    · rw [upI_n _ _ (by omega), upI_n _ _ (by omega)]; exact hf.2.2.1
    · rw [upI_n _ _ (by omega), upI_n _ _ (by omega)]; exact hf.2.2.2
    · by_cases c : p = o
      · subst c; rw [upI_s]; rfl
      · rw [upI_n _ _ (by omega), upI_n _ _ (by omega)]; exact h38 p (by omega)
theorem gp_ok (hk : SOk S) (hC : RC S M) (hi : i < dn S.2.2.1) (hj : j < dn S.2.2.1) (hs : set < 64) (h : ∀ M', Eqv (fun a _ => a = 37 ∨ a = 38) M M' → Q (some (.int (nI (part S.2.2.1 set i j)))) M') : C_X5_greatestPart G (nI i) (nI set) (nI j) M Q := by
  have h8 := hk.2.2.1.1
  refine v_X5_greatestPart (has_y hC.nz h8 hi (RI.mk (br_f (by decide) (has_y hC.nz h8 hj (RI.mk (br_f (by decide) ⟨vin (by omega), ?_⟩))))))
  rw [ncl (by omega)]
  refine like_ok rfl (kd8 hk.2.2.1 hi) (by omega) (hC.gl hi) (hC.wh hi) fun M1 e1 g1 _ => RV.mk ?_
  exact gp38_loop hk M hC hi hj hs h 6 0 M1 (by omega) (e1.mono (by omega)) ⟨g1.2.1, g1.2.2.1, g1.2.2.2.1, g1.2.2.2.2⟩ (fun p hp => absurd hp (Nat.not_lt_zero p))
/-- the first by which something is least -/
def sml (c : Nat → Option Nat) : Nat → Option (Nat × Nat)
  | 0 => none
  | j + 1 => match c j with
    | none => sml c j
    | some v => match sml c j with
      | none => some (j, v)
      | some (b, m) => if v < m then some (j, v) else some (b, m)
theorem sml_n {c : Nat → Option Nat} {j : Nat} (h : c j = none) : sml c (j + 1) = sml c j := by
  show (match c j with
    | none => sml c j
    | some v => match sml c j with
      | none => some (j, v)
      | some (b, m) => if v < m then some (j, v) else some (b, m)) = _
  rw [h]
theorem sml_s {c : Nat → Option Nat} {j v : Nat} (h : c j = some v) : sml c (j + 1) = match sml c j with
      | none => some (j, v)
      | some (b, m) => if v < m then some (j, v) else some (b, m) := by
  show (match c j with
    | none => sml c j
    | some v => match sml c j with
      | none => some (j, v)
      | some (b, m) => if v < m then some (j, v) else some (b, m)) = _
  rw [h]
theorem sml_is {c : Nat → Option Nat} : ∀ (j b m : Nat), sml c j = some (b, m) → b < j ∧ c b = some m
  | 0, b, m, h => by cases h
  | j + 1, b, m, h => by
    cases q : c j with
    | none =>
      rw [sml_n q] at h
      have := sml_is j b m h
      exact ⟨by omega, this.2⟩
    | some v =>
      rw [sml_s q] at h
      cases q2 : sml c j with
      | none => rw [q2] at h; cases h; exact ⟨by omega, q⟩
      | some y =>
        obtain ⟨b', m'⟩ := y
        rw [q2] at h
        simp only [] at h
        have := sml_is j b' m' q2
        split at h
        · cases h; exact ⟨by omega, q⟩
        · cases h; exact ⟨by omega, this.2⟩
theorem sml_none {c : Nat → Option Nat} : ∀ (j : Nat), sml c j = none → ∀ p, p < j → c p = none
  | 0, _, p, hp => absurd hp (Nat.not_lt_zero p)
  | j + 1, h, p, hp => by
    cases q : c j with
    | none =>
      rw [sml_n q] at h
      by_cases e : p = j
      · rw [e]; exact q
      · exact sml_none j h p (by omega)
    | some v =>
      rw [sml_s q] at h
      cases q2 : sml c j with
      | none => rw [q2] at h; cases h
      | some y =>
        obtain ⟨b', m'⟩ := y
        rw [q2] at h
        simp only [] at h
        split at h <;> cases h
theorem sml_none' {c : Nat → Option Nat} : ∀ (j : Nat), (∀ p, p < j → c p = none) → sml c j = none
  | 0, _ => rfl
  | j + 1, h => by rw [sml_n (h j (by omega))]; exact sml_none' j fun p hp => h p (by omega)
def sml7 (o : Option (Nat × Nat)) : Int32 := match o with
  | none => nI 7
  | some (_, m) => nI m
def tsC (D : Dr) (set i j : Nat) : Option Nat := if j = i then none else some (part D set i j)
theorem tsC_n {D : Dr} {set i j : Nat} (h : j = i) : tsC D set i j = none := if_pos h
theorem tsC_s {D : Dr} {set i j : Nat} (h : ¬ j = i) : tsC D set i j = some (part D set i j) := if_neg h
theorem nt_loop (hk : SOk S) (M0 : Mem) (hC0 : RC S M0) (hi : i < dn S.2.2.1) (hs : set < 64) (h : ∀ M', Eqv (fun a _ => a = 37 ∨ a = 38) M0 M' → Q (some (.int (sel1 (sml (tsC S.2.2.1 set i) (dn S.2.2.1))))) M') :
    ∀ (k j : Nat) (M : Mem), j + k = dn S.2.2.1 → Eqv (fun a _ => a = 37 ∨ a = 38) M0 M → P_X5_nextTry_11 G (nI i) (nI set) (sel1 (sml (tsC S.2.2.1 set i) j)) (sml7 (sml (tsC S.2.2.1 set i) j)) (nI j) M Q := by
  have h8 := hk.2.2.1.1
  intro k
  induction k with
  | zero =>
    intro j M hj e
    have : j = dn S.2.2.1 := by omega
    subst this
    have hC1 : RC S M := hC0.scr hk (e.mono (by unfold scrC; omega))
    refine v_X5_nextTry_11 ?_
    rw [hC1.nz]
    exact br_f (nI_nlt (Nat.le_refl _) (by omega)) (h M e)
  | succ k ih =>
    intro j M hj e
    have hj2 : j < dn S.2.2.1 := by omega
    have ih1 := fun M1 => ih (j + 1) M1 (by omega)
    have hC1 : RC S M := hC0.scr hk (e.mono (by unfold scrC; omega))
    refine v_X5_nextTry_11 ?_
    rw [hC1.nz, nI_1, nI_eq (by omega) (by omega)]
    refine br_t (nI_lt hj2 (by omega)) ⟨fun c => ?_, fun c => gp_ok hk hC1 hi hj2 hs fun M2 e2 => RI.mk ?_⟩
    · rw [sml_n (tsC_n c)] at ih1
      exact ih1 M e
    · have ih2 := ih1 M2 (e.tr e2)
      rw [sml_s (tsC_s c)] at ih2
      have pl := part_le S.2.2.1 set i j
      cases q : sml (tsC S.2.2.1 set i) j with
      | none =>
        rw [q] at ih2
        exact br_t (show nI (part S.2.2.1 set i j) < nI 7 from nI_lt (by omega) (by decide)) ih2
      | some y =>
        obtain ⟨b, m⟩ := y
        have sm := sml_is j b m q
        have hm : m ≤ 6 := by
          have h2 := sm.2
          unfold tsC at h2
          split at h2
          · cases h2
          · cases h2; exact part_le _ _ _ _
        rw [q] at ih2
        simp only [] at ih2
        have lt : nI (part S.2.2.1 set i j) < nI m ↔ part S.2.2.1 set i j < m := nI_ltI (by omega) (by omega)
        refine ⟨fun c2 => ?_, fun c2 => ?_⟩
        · rw [if_pos (lt.mp c2)] at ih2; exact ih2
        · rw [if_neg (fun q => c2 (lt.mpr q))] at ih2; exact ih2
/-! the reference's -/
end TST
