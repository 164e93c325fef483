/-! promises 22, 24, 25, 27, 28 -/
section GOO
variable {G : Glob} {M : Mem} {Q : Option Value → Mem → Prop} {n : Nat} {S : St} {D : Dr}
theorem sh1n (h : n ≤ 8) : (1 : Int32) <<< (nI n &&& 31) = nI (2 ^ n) := sh1_tab n (by omega)
theorem isSet_y (hz : M.1 12 2 = nI n) (hn : n ≤ 8) {m : Nat} (hm : m < 2 ^ n) (h : Q (some (.int 1)) M) : C_X3_isSet G (nI m) M Q := by
  have := p2_257 hn
  refine v_X3_isSet (br_f (nI_pos (by omega)) ?_)
  rw [hz, sh1n hn]
  exact br_t (nI_lt hm (by omega)) h
theorem isSet_n (hz : M.1 12 2 = nI n) (hn : n ≤ 8) {x : Int32} (hx : x < 0 ∨ nI (2 ^ n) ≤ x) (h : Q (some (.int 0)) M) : C_X3_isSet G x M Q := by
  refine v_X3_isSet ⟨fun _ => h, fun c => ?_⟩
  rw [hz, sh1n hn]
  exact br_f (Int32.not_lt.mpr (hx.resolve_left c)) h
theorem inA_n (hn : n ≤ 8) {x : Int32} (hx : x < 0 ∨ nI (2 ^ n) ≤ x) : x < 0 ∨ nI (2 ^ n - 1) < x := by
  have := p2_257 hn
  have pp := p2_pos n
  refine hx.imp id fun q => (nlt_le (n := 2 ^ n - 1) (by omega)).mpr ?_
  rw [show 2 ^ n - 1 + 1 = 2 ^ n by omega]
  exact q
theorem inA_y (hn : n ≤ 8) {m : Nat} (hm : m < 2 ^ n) : ¬ nI (2 ^ n - 1) < nI m := by
  have := p2_257 hn
  exact nI_nlt (by omega) (by omega)
theorem RC.wg {M1 : Mem} (hk : SOk S) (hC : RC S M) (e : Eqv (fun a _ => 24 ≤ a ∧ a ≤ 26) M M1) : RC S M1 := hC.scr hk (e.mono (by unfold scrC; omega))
theorem RM.wg {M1 : Mem} (hM : RM S M) (e : Eqv (fun a _ => a = 91 ∨ a = 92) M M1) : RM S M1 := hM.scr (e.mono (by unfold scrM; omega))
/-! the first by which something changes most -/
def sel (c : Nat → Option Nat) : Nat → Option (Nat × Nat)
  | 0 => none
  | j + 1 => match c j with
    | none => sel c j
    | some v => match sel c j with
      | none => some (j, v)
      | some (b, m) => if m < v then some (j, v) else some (b, m)
theorem sel_n {c : Nat → Option Nat} {j : Nat} (h : c j = none) : sel c (j + 1) = sel c j := by
  show (match c j with
    | none => sel c j
    | some v => match sel c j with
      | none => some (j, v)
      | some (b, m) => if m < v then some (j, v) else some (b, m)) = _
  rw [h]
theorem sel_s {c : Nat → Option Nat} {j v : Nat} (h : c j = some v) : sel c (j + 1) = match sel c j with
      | none => some (j, v)
      | some (b, m) => if m < v then some (j, v) else some (b, m) := by
  show (match c j with
    | none => sel c j
    | some v => match sel c j with
      | none => some (j, v)
      | some (b, m) => if m < v then some (j, v) else some (b, m)) = _
  rw [h]
def sel1 (o : Option (Nat × Nat)) : Int32 := match o with
  | none => -9
  | some (b, _) => nI b
def sel2 (o : Option (Nat × Nat)) : Int32 := match o with
  | none => 0
  | some (_, m) => nI m
theorem sel_lt {c : Nat → Option Nat} {B : Nat} (hc : ∀ j v, c j = some v → v < B) : ∀ (j b m : Nat), sel c j = some (b, m) → b < j ∧ m < B
  | 0, b, m, h => by cases h
  | j + 1, b, m, h => by
    cases q : c j with
    | none =>
      rw [sel_n q] at h
      have := sel_lt hc j b m h
      omega
    | some v =>
      rw [sel_s q] at h
      cases q2 : sel c j with
      | none => rw [q2] at h; cases h; exact ⟨by omega, hc j _ q⟩
      | some y =>
        obtain ⟨b', m'⟩ := y
        rw [q2] at h
        simp only [] at h
        have := sel_lt hc j b' m' q2
        split at h
        · cases h; exact ⟨by omega, hc j _ q⟩
        · cases h; omega
theorem ap_abs {a b : Nat} (ha : a < 1000) (hb : b < 1000) : (if (0 : Int32) ≤ nI a - nI b then nI a - nI b else (0 : Int32) - (nI a - nI b)) = nI (apN a b) := by
  unfold apN
  by_cases c : a < b
  · have h1 := pk_sub_toInt (a := a) (b := b) (by omega) (by omega)
    rw [if_neg (fun q => by rw [Int32.le_iff_toInt_le, h1, show (0 : Int32).toInt = 0 by decide] at q; omega), if_pos c, ← pk_sub (by omega)]
    simp
  · rw [pk_sub (by omega), if_pos (nI_pos' (by omega)), if_neg c]
def chC (D : Dr) (set i : Nat) : Option Nat := if set.testBit i then some (apN (best D (sIn D 0 ^^^ 2 ^ i)) (best D (sIn D 0))) else none
theorem chC_lt (hk : DOk D) {set j v : Nat} (h : chC D set j = some v) : v < 1000 := by
  unfold chC at h
  split at h
  · cases h
    have := best_le hk (sIn D 0 ^^^ 2 ^ j)
    have := best_le hk (sIn D 0)
    show apN (best D (sIn D 0 ^^^ 2 ^ j)) (best D (sIn D 0)) < 1000
    unfold apN; split <;> omega
  · cases h
theorem sIn_n (D : Dr) (w : Nat) : sIn D w < 2 ^ dn D := sb_lt _ _
theorem sel1_9 {c : Nat → Option Nat} {n : Nat} (hn : n ≤ 8) {j : Nat} (hj : j ≤ n) (hc : ∀ j v, c j = some v → v < 1000) : sel1 (sel c j) = -9 ↔ sel c j = none := by
  cases q : sel c j with
  | none => simp [sel1]
  | some y =>
    obtain ⟨b, m⟩ := y
    have := sel_lt hc j b m q
    simp only [sel1, reduceCtorEq, iff_false]
    exact nI_ne9 (by omega)
theorem gc_loop (hk : SOk S) (hC : RC S M) (hT : TbC S.2.2.1 (2 ^ dn S.2.2.1) M) {set : Nat} (hset : set < 256)
    (h0 : sel (chC S.2.2.1 set) (dn S.2.2.1) = none → Q (some (.int (-9))) M) (h1 : ∀ b m, sel (chC S.2.2.1 set) (dn S.2.2.1) = some (b, m) → Q (some (.int (nI b))) (upI M 0 12 (nI m))) :
    ∀ (k j : Nat), j + k = dn S.2.2.1 → P_X10_greatestChange_18 G (nI set) (nI (sIn S.2.2.1 0)) (sel1 (sel (chC S.2.2.1 set) j)) (sel2 (sel (chC S.2.2.1 set) j)) (nI j) M Q := by
  have h8 := hk.2.2.1.1
  have hp := p2_257 h8
  have hin := sIn_n S.2.2.1 0
  intro k
  induction k with
  | zero =>
    intro j hj
    have : j = dn S.2.2.1 := by omega
    subst this
    refine v_X10_greatestChange_18 ?_
    rw [hC.nz]
    refine br_f (nI_nlt (Nat.le_refl _) (by omega)) ?_
    rw [sel1_9 h8 (Nat.le_refl _) (fun j v h => chC_lt hk.2.2.1 h)]
    refine ⟨fun c => ?_, fun c => ?_⟩
    · rw [c]; exact h0 c
    · obtain ⟨⟨b, m⟩, hy⟩ := Option.ne_none_iff_exists'.mp c
      rw [hy]
      rintro _ rfl
      exact h1 b m hy
  | succ k ih =>
    intro j hj
    have hj2 : j < dn S.2.2.1 := by omega
    have hx : sIn S.2.2.1 0 ^^^ 2 ^ j < 2 ^ dn S.2.2.1 := Nat.xor_lt_two_pow hin (Nat.pow_lt_pow_right (by decide) hj2)
    refine v_X10_greatestChange_18 ?_
    rw [hC.nz, nI_1, tb_and set hset j (by omega), tb_xor _ (by omega) j (by omega), ncl (by omega), ncl (by omega), (hT _ hx).1, (hT _ hin).1, ap_abs (by have := best_le hk.2.2.1 (sIn S.2.2.1 0 ^^^ 2 ^ j); omega) (by have := best_le hk.2.2.1 (sIn S.2.2.1 0); omega)]
    have ih1 := ih (j + 1) (by omega)
    refine br_t (nI_lt hj2 (by omega)) ⟨fun c => ?_, fun c => ⟨vin (by omega), vin (by omega), ?_⟩⟩
    · rw [sel_n (by unfold chC; rw [c]; rfl)] at ih1
      exact ih1
    · rintro _ rfl
      have c' : set.testBit j = true := by
        cases q : set.testBit j
        · exact absurd q c
        · rfl
      have hs : chC S.2.2.1 set j = some (apN (best S.2.2.1 (sIn S.2.2.1 0 ^^^ 2 ^ j)) (best S.2.2.1 (sIn S.2.2.1 0))) := if_pos c'
      have hlt := chC_lt hk.2.2.1 hs
      rw [sel_s hs] at ih1
      rw [sel1_9 h8 (by omega) (fun j v h => chC_lt hk.2.2.1 h)]
      cases q : sel (chC S.2.2.1 set) j with
      | none =>
        rw [q] at ih1
        exact br_t rfl ih1
      | some y =>
        obtain ⟨b, m⟩ := y
        have := sel_lt (fun j v h => chC_lt hk.2.2.1 h) j b m q
        rw [q] at ih1
        simp only [] at ih1
        refine br_f (by simp) ?_
        show (nI m < _ → _) ∧ _
        rw [nI_ltI (by omega) (by omega)]
        refine ⟨fun d => ?_, fun d => ?_⟩
        · rw [if_pos d] at ih1; exact ih1
        · rw [if_neg (fun q2 => d (nI_lt q2 (by omega)))] at ih1; exact ih1
theorem gc_ok (hk : SOk S) (hC : RC S M) (hT : TbC S.2.2.1 (2 ^ dn S.2.2.1) M) {set : Nat} (hset : set < 256)
    (h0 : sel (chC S.2.2.1 set) (dn S.2.2.1) = none → Q (some (.int (-9))) M) (h1 : ∀ b m, sel (chC S.2.2.1 set) (dn S.2.2.1) = some (b, m) → Q (some (.int (nI b))) (upI M 0 12 (nI m))) : C_X10_greatestChange G (nI set) M Q :=
  v_X10_greatestChange (set_ok (w := 0) hk.2.2.1 hC.2.2.1 (by decide) (RI.mk (gc_loop hk hC hT hset h0 h1 (dn S.2.2.1) 0 (by omega))))
theorem best_del (D : Dr) {m i : Nat} (hm : m < 256) (h : m.testBit i = true) : best D (m ^^^ 2 ^ i) ≤ best D m := by
  show bB (wD D) (m ^^^ 2 ^ i) ≤ bB (wD D) m
  rw [bB_any (w := wD D) (wD_comm D) (N := 8) hm h (fun j hj => tb_hi (n := 8) (xor_lt8 hm (tb_lt8 hm h)) hj)]
  exact (fm_ge _ _ _).1
theorem sIn_tb (D : Dr) (w i : Nat) : (sIn D w).testBit i = (decide (i < dn D) && (whO (dL D) i == w)) := sb_tb _ _ _
theorem wi_tb (hk : DOk D) {j : Nat} (hj : j < dn D) : (sIn D 1 ||| sIn D 2).testBit j = !(whO (dL D) j == 0) := by
  rw [Nat.testBit_or, sIn_tb, sIn_tb, decide_eq_true hj, Bool.true_and, Bool.true_and]
  have := whO_lt (dL D) j
  rcases (show whO (dL D) j = 0 ∨ whO (dL D) j = 1 ∨ whO (dL D) j = 2 by omega) with e | e | e <;> rw [e] <;> rfl
theorem or_xor {m i : Nat} (h : m.testBit i = false) : m ||| 2 ^ i = m ^^^ 2 ^ i := by
  refine Nat.eq_of_testBit_eq fun k => ?_
  rw [Nat.testBit_or, Nat.testBit_xor, Nat.testBit_two_pow]
  by_cases c : i = k
  · subst c; simp [h]
  · simp [c]
theorem xor_back (m i : Nat) : m ^^^ 2 ^ i ^^^ 2 ^ i = m := by rw [Nat.xor_assoc, Nat.xor_self, Nat.xor_zero]
theorem xor_tb {m i : Nat} (h : m.testBit i = false) : (m ^^^ 2 ^ i).testBit i = true := by rw [Nat.testBit_xor, h, Nat.testBit_two_pow]; simp
theorem dn0 (h : dn D ≤ 8) : (nI (dn D) = 0) = (dn D = 0) := by rw [show (0 : Int32) = nI 0 from rfl, nI_eq (by omega) (by omega)]
end GOO
