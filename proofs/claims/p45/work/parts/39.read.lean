/-! a text read: what it tells, or the place of its first fault -/
def skq (f : Nat → Int32) : Nat → Nat → Nat
  | 0, p => p
  | k + 1, p => if f p = 32 then skq f k (p + 1) else p
def skp (f : Nat → Int32) (n p : Nat) : Nat := skq f (n - p) p
def kdc (c : Int32) : Option Nat := if c = 101 then some 2 else if c = 103 then some 0 else if c = 108 then some 4 else if c = 109 then some 1 else if c = 115 then some 3 else if c = 116 then some 5 else none
def fg (c : Int32) (lo hi : Nat) : Option Nat := if nI (48 + lo) ≤ c ∧ c ≤ nI (48 + hi) then some (c.toNatClampNeg - 48) else none
def fgo (f : Nat → Int32) (n p lo hi : Nat) : Option Nat := if p < n then fg (f p) lo hi else none
def rdG (f : Nat → Int32) (n p : Nat) : Except Nat Gs := match kdc (f p) with
  | none => .error p
  | some k => match fgo f n (p + 1) 0 9 with
    | none => .error (p + 1)
    | some s => match fgo f n (p + 2) 0 1 with
      | none => .error (p + 2)
      | some h => match fgo f n (p + 3) 0 9 with
        | none => .error (p + 3)
        | some w => .ok (k, s, h, w)
def rdL (f : Nat → Int32) (n : Nat) : Nat → Nat → Nat → (Nat → Gs) → Except Nat (Nat × (Nat → Gs))
  | 0, z, p, g => if p < n then .error p else .ok (z, g)
  | k + 1, z, p, g => if p < n then
      match rdG f n p with
      | .error e => .error e
      | .ok x => rdL f n k (z + 1) (skp f n (p + 4)) (fu g z x)
    else if z = 0 then .error p else .ok (z, g)
def rdT (f : Nat → Int32) (n : Nat) : Except Nat (Nat × Nat × (Nat → Gs)) :=
  if skp f n 0 < n ∧ f (skp f n 0) = 100 then
    match fgo f n (skp f n 0 + 1) 1 8 with
    | none => .error (skp f n 0 + 1)
    | some r => match rdL f n 8 0 (skp f n (skp f n 0 + 2)) (fun _ => (0, 0, 0, 0)) with
      | .error e => .error e
      | .ok (z, g) => .ok (r, z, g)
  else .error (skp f n 0)
theorem skq_le (f : Nat → Int32) : ∀ k p, p ≤ skq f k p ∧ skq f k p ≤ p + k
  | 0, p => by unfold skq; omega
  | k + 1, p => by
    unfold skq
    split
    · have := skq_le f k (p + 1); omega
    · omega
theorem skp_le (f : Nat → Int32) (n p : Nat) : p ≤ skp f n p ∧ (p ≤ n → skp f n p ≤ n) ∧ (n ≤ p → skp f n p = p) := by
  have := skq_le f (n - p) p
  unfold skp
  omega
theorem skp_s {f : Nat → Int32} {n p : Nat} (h : p < n) (e : f p = 32) : skp f n p = skp f n (p + 1) := by
  unfold skp
  rw [show n - p = (n - (p + 1)) + 1 by omega]
  show (if f p = 32 then skq f (n - (p + 1)) (p + 1) else p) = _
  rw [if_pos e]
theorem skp_n {f : Nat → Int32} {n p : Nat} (h : ¬ (p < n ∧ f p = 32)) : skp f n p = p := by
  unfold skp
  by_cases c : p < n
  · rw [show n - p = (n - (p + 1)) + 1 by omega]
    show (if f p = 32 then skq f (n - (p + 1)) (p + 1) else p) = _
    rw [if_neg (fun q => h ⟨c, q⟩)]
  · rw [show n - p = 0 by omega]; rfl
theorem kdc_lt {c : Int32} {k : Nat} (h : kdc c = some k) : k < 6 := by
  unfold kdc at h
  repeat' split at h
  all_goals first | cases h; decide | cases h
theorem fg_or (c : Int32) {lo hi : Nat} (hlh : lo ≤ hi) (hl : hi ≤ 9) : (fg c lo hi = none ∧ (c - 48 < nI lo ∨ nI hi < c - 48) ∧ (c < nI (48 + lo) ∨ nI (48 + hi) < c)) ∨ (∃ v, lo ≤ v ∧ v ≤ hi ∧ c = nI (48 + v) ∧ fg c lo hi = some v) := by
  have key : ∀ {a b : Int32}, ¬ a ≤ b → b < a := fun h => Int32.not_le.mp h
  have third : fg c lo hi = none → (c < nI (48 + lo) ∨ nI (48 + hi) < c) := fun h => by
    unfold fg at h
    by_cases c1 : nI (48 + lo) ≤ c
    · by_cases c2 : c ≤ nI (48 + hi)
      · rw [if_pos ⟨c1, c2⟩] at h; cases h
      · exact Or.inr (key c2)
    · exact Or.inl (key c1)
  rcases ix3 (c - 48) (n := 10) (by decide) with h | ⟨j, hj, hc⟩
  · have hn : fg c lo hi = none := by
      unfold fg
      refine if_neg fun q => ?_
      have q1 := Int32.le_iff_toInt_le.mp q.1
      have q2 := Int32.le_iff_toInt_le.mp q.2
      rw [nI_toInt (by omega)] at q1 q2
      have q3 : (c - 48).toInt = c.toInt - 48 := sub_toInt (b := 48) (by rw [show (48 : Int32).toInt = 48 by decide]; omega) (by rw [show (48 : Int32).toInt = 48 by decide]; omega)
      rcases h with h | h
      · have h2 := Int32.lt_iff_toInt_lt.mp h
        rw [q3, show (0 : Int32).toInt = 0 by decide] at h2
        omega
      · have h2 := Int32.le_iff_toInt_le.mp h
        rw [q3, nI_toInt (by decide)] at h2
        omega
    refine Or.inl ⟨hn, ?_, third hn⟩
    rcases h with h | h
    · left
      have h2 := Int32.lt_iff_toInt_lt.mp h
      rw [show (0 : Int32).toInt = 0 by decide] at h2
      rw [Int32.lt_iff_toInt_lt, nI_toInt (by omega)]
      omega
    · right
      have h2 := Int32.le_iff_toInt_le.mp h
      rw [nI_toInt (by decide)] at h2
      rw [Int32.lt_iff_toInt_lt, nI_toInt (by omega)]
      omega
  · have ec : c = nI (48 + j) := by
      have : c - 48 + 48 = nI j + 48 := by rw [hc]
      rw [Int32.sub_add_cancel] at this
      rw [this, show (48 : Int32) = nI 48 from rfl, nI_add, Nat.add_comm]
    by_cases d : lo ≤ j ∧ j ≤ hi
    · refine Or.inr ⟨j, d.1, d.2, ec, ?_⟩
      unfold fg
      rw [ec, if_pos ⟨nI_le (by omega) (by omega), nI_le (by omega) (by omega)⟩, ncl (by omega)]
      simp
    · have hn : fg c lo hi = none := by
        unfold fg
        refine if_neg fun q => d ?_
        have q1 := Int32.le_iff_toInt_le.mp q.1
        have q2 := Int32.le_iff_toInt_le.mp q.2
        rw [ec, nI_toInt (by omega), nI_toInt (by omega)] at q1 q2
        omega
      refine Or.inl ⟨hn, ?_, third hn⟩
      rw [hc]
      by_cases d1 : lo ≤ j
      · exact Or.inr (nI_lt (by omega) (by omega))
      · exact Or.inl (nI_lt (by omega) (by omega))
/-! the class reads -/
section RDC
variable {G : Glob} {M : Mem} {Q : Option Value → Mem → Prop} {r n p : Nat} {s : RSt}
/-- a glove as it is drafted -/
def DrfC (M : Mem) (i : Nat) (x : Gs) : Prop := M.1 8 i = nI x.1 ∧ M.1 9 i = nI x.2.1 ∧ M.1 10 i = nI x.2.2.1 ∧ M.1 11 i = nI x.2.2.2
theorem kindOf_ok {c : Int32} (h : Q (some (.int (oS (kdc c)))) M) : C_X7_kindOf G c M Q := by
  refine v_X7_kindOf ?_
  unfold kdc at h
  by_cases c1 : c = 101
  · subst c1; repeat (first | exact h | refine br_t (by decide) ?_ | refine br_f (by decide) ?_)
  by_cases c2 : c = 103
  · subst c2; repeat (first | exact h | refine br_t (by decide) ?_ | refine br_f (by decide) ?_)
  by_cases c3 : c = 108
  · subst c3; repeat (first | exact h | refine br_t (by decide) ?_ | refine br_f (by decide) ?_)
  by_cases c4 : c = 109
  · subst c4; repeat (first | exact h | refine br_t (by decide) ?_ | refine br_f (by decide) ?_)
  by_cases c5 : c = 115
  · subst c5; repeat (first | exact h | refine br_t (by decide) ?_ | refine br_f (by decide) ?_)
  by_cases c6 : c = 116
  · subst c6; repeat (first | exact h | refine br_t (by decide) ?_ | refine br_f (by decide) ?_)
  rw [if_neg c1, if_neg c2, if_neg c3, if_neg c4, if_neg c5, if_neg c6] at h
  repeat (first | exact h | refine br_f (by assumption) ?_ | refine ⟨fun _ => h, fun _ => ?_⟩)
theorem figure_ok (hs : RowsC 4 4 60 32 6 51 s M) (hk : ROk 4 60 s) (hr : r < 4) (hn : s.1 r = some n) {p lo hi : Nat} (hp : p < 2 ^ 30) (hlh : lo ≤ hi) (hl : hi ≤ 9) (h : Q (some (.int (oS (fgo (s.2 r) n p lo hi)))) M) : C_X7_figure G (nI r) (nI p) (nI lo) (nI hi) M Q := by
  have h60 := hk r hr n hn
  unfold fgo at h
  by_cases c : p < n
  · rw [if_pos c] at h
    refine v_X7_figure (holds_yes RPk.T hs hk hr hn c (RI.mk (br_f (by decide) (read_ok RPk.T hs hk hr hn c (RI.mk ?_)))))
    rcases fg_or (s.2 r p) hlh hl with ⟨e, q, -⟩ | ⟨v, v1, v2, e1, e2⟩
    · rw [e] at h
      exact ⟨fun _ => h, fun d => br_t (q.resolve_left d) h⟩
    · rw [e2] at h
      have e3 : s.2 r p - 48 = nI v := by rw [e1, show (48 : Int32) = nI 48 from rfl, pk_sub (by omega)]; congr 1; omega
      rw [e3]
      exact br_f (nI_nlt v1 (by omega)) (br_f (nI_nlt v2 (by omega)) h)
  · rw [if_neg c] at h
    exact v_X7_figure (holds_no RPk.T hs hr (x := nI p) (Or.inr (by rw [hn]; exact nI_le (by omega) (by omega))) (RI.mk (br_t rfl h)))
theorem pastB_loop (hs : RowsC 4 4 60 32 6 51 s M) (hk : ROk 4 60 s) (hr : r < 4) (hn : s.1 r = some n) : ∀ (k p : Nat), n ≤ p + k → p < 2 ^ 30 → Q (some (.int (nI (skp (s.2 r) n p)))) M → P_X7_pastBlanks_9 G (nI r) (nI n) (nI p) M Q := by
  have h60 := hk r hr n hn
  intro k
  induction k with
  | zero =>
    intro p hp hb h
    rw [skp_n (by omega)] at h
    exact v_X7_pastBlanks_9 (br_f (nI_nlt (by omega) (by omega)) h)
  | succ k ih =>
    intro p hp hb h
    by_cases c : p < n
    · refine v_X7_pastBlanks_9 (br_t (nI_lt c (by omega)) (read_ok RPk.T hs hk hr hn c (RI.mk ⟨fun e => ?_, fun e => ?_⟩)))
      · rw [nI_1]
        rw [skp_s c e] at h
        exact ih (p + 1) (by omega) (by omega) h
      · rw [skp_n (fun q => e q.2)] at h
        exact h
    · rw [skp_n (by omega)] at h
      exact v_X7_pastBlanks_9 (br_f (nI_nlt (by omega) (by omega)) h)
theorem pastB_ok (hs : RowsC 4 4 60 32 6 51 s M) (hk : ROk 4 60 s) (hr : r < 4) (hn : s.1 r = some n) {p : Nat} (hp : p < 2 ^ 30) (h : Q (some (.int (nI (skp (s.2 r) n p)))) M) : C_X7_pastBlanks G (nI r) (nI p) M Q := by
  refine v_X7_pastBlanks (size_ok RPk.T hs hr (RI.mk ?_))
  rw [hn]
  exact pastB_loop hs hk hr hn n p (by omega) hp h
theorem oS_m1' {o : Option Nat} (h : ∀ v, o = some v → v < 2 ^ 31) : (oS o = -1 ↔ o = none) := oS_m1 h
theorem fgo_le {f : Nat → Int32} {p lo hi v : Nat} (hlh : lo ≤ hi) (hl : hi ≤ 9) (h : fgo f n p lo hi = some v) : v ≤ hi ∧ lo ≤ v := by
  unfold fgo at h
  split at h
  · rcases fg_or (f p) hlh hl with ⟨e, -, -⟩ | ⟨u, u1, u2, e1, e2⟩
    · rw [e] at h; cases h
    · rw [e2] at h; cases h; exact ⟨u2, u1⟩
  · cases h
theorem faultG_ok (hs : RowsC 4 4 60 32 6 51 s M) (hk : ROk 4 60 s) (hr : r < 4) (hn : s.1 r = some n) {p z : Nat} (hp : p < n) (hz : z < 8) (hz0 : M.1 7 4 = nI z)
    (he : ∀ e M', rdG (s.2 r) n p = .error e → Eqv (fun a k => 8 ≤ a ∧ a ≤ 11 ∧ k = z) M M' → Q (some (.int (nI e))) M')
    (ho : ∀ x M', rdG (s.2 r) n p = .ok x → Eqv (fun a k => 8 ≤ a ∧ a ≤ 11 ∧ k = z) M M' → DrfC M' z x → Q (some (.int (-9))) M') : C_X7_faultOfGlove G (nI r) (nI p) M Q := by
  have h60 := hk r hr n hn
  have p0 : ∀ {M' : Mem}, Eqv (fun a k => 8 ≤ a ∧ a ≤ 11 ∧ k = z) M M' → M'.1 7 4 = nI z := fun e => by rw [e.i (by omega), hz0]
  have ps : ∀ {M' : Mem}, Eqv (fun a k => 8 ≤ a ∧ a ≤ 11 ∧ k = z) M M' → RowsC 4 4 60 32 6 51 s M' := fun e => hs.eqv e (by omega)
  refine v_X7_faultOfGlove ?_
  rw [hz0]
  refine br_f (nI_pos (by omega)) (br_t (show nI z < nI 8 from nI_lt hz (by decide)) (read_ok RPk.T hs hk hr hn hp (RI.mk (kindOf_ok (RI.mk ⟨vin hz, ?_⟩)))))
  rintro M1 rfl
  have e1 : Eqv (fun a k => 8 ≤ a ∧ a ≤ 11 ∧ k = z) M (upI M 8 (nI z).toNatClampNeg (oS (kdc (s.2 r p)))) := Eqv.rf.upI ⟨by omega, by omega, ncl (by omega)⟩
  rw [p0 e1, ncl (by omega)]
  rw [ncl (by omega)] at e1
  unfold rdG at he ho
  rw [upI_s, oS_m1' (fun v hv => by have := kdc_lt hv; omega)]
  refine ⟨vin hz, fun c => he p _ (by rw [c]) e1, fun c => ?_⟩
  obtain ⟨k, hkk⟩ := Option.ne_none_iff_exists'.mp c
  rw [hkk] at he ho e1 ⊢
  simp only [] at he ho
  rw [show nI p + 1 = nI (p + 1) from nI_1 p]
  refine figure_ok (ps e1) hk hr hn (lo := 0) (hi := 9) (by omega) (by omega) (by omega) (RI.mk ⟨vin hz, ?_⟩)
  rintro M2 rfl
  have e2 := e1.upI (a := 9) (k := z) (v := oS (fgo (s.2 r) n (p + 1) 0 9)) ⟨by omega, by omega, rfl⟩
  rw [p0 e2, ncl (by omega), upI_s, oS_m1' (fun v hv => by have := fgo_le (by omega) (by omega) hv; omega)]
  refine ⟨vin hz, fun c => he (p + 1) _ (by rw [c]) e2, fun c => ?_⟩
  obtain ⟨so, hso⟩ := Option.ne_none_iff_exists'.mp c
  rw [hso] at he ho e2 ⊢
  simp only [] at he ho
  rw [show nI p + 2 = nI (p + 2) from nI_add p 2]
  refine figure_ok (ps e2) hk hr hn (lo := 0) (hi := 1) (by omega) (by omega) (by omega) (RI.mk ⟨vin hz, ?_⟩)
  rintro M3 rfl
  have e3 := e2.upI (a := 10) (k := z) (v := oS (fgo (s.2 r) n (p + 2) 0 1)) ⟨by omega, by omega, rfl⟩
  rw [p0 e3, ncl (by omega), upI_s, oS_m1' (fun v hv => by have := fgo_le (by omega) (by omega) hv; omega)]
  refine ⟨vin hz, fun c => he (p + 2) _ (by rw [c]) e3, fun c => ?_⟩
  obtain ⟨hd, hhd⟩ := Option.ne_none_iff_exists'.mp c
  rw [hhd] at he ho e3 ⊢
  simp only [] at he ho
  rw [show nI p + 3 = nI (p + 3) from nI_add p 3]
  refine figure_ok (ps e3) hk hr hn (lo := 0) (hi := 9) (by omega) (by omega) (by omega) (RI.mk ⟨vin hz, ?_⟩)
  rintro M4 rfl
  have e4 := e3.upI (a := 11) (k := z) (v := oS (fgo (s.2 r) n (p + 3) 0 9)) ⟨by omega, by omega, rfl⟩
  rw [p0 e4, ncl (by omega), upI_s, oS_m1' (fun v hv => by have := fgo_le (by omega) (by omega) hv; omega)]
  refine ⟨vin hz, fun c => he (p + 3) _ (by rw [c]) e4, fun c => ?_⟩
  obtain ⟨w, hw⟩ := Option.ne_none_iff_exists'.mp c
  rw [hw] at he ho e4 ⊢
  simp only [] at he ho
  refine ho (k, so, hd, w) _ rfl e4 ⟨?_, ?_, ?_, ?_⟩
  · rw [upI_n _ _ (by omega), upI_n _ _ (by omega), upI_n _ _ (by omega), upI_s]; rfl
  · rw [upI_n _ _ (by omega), upI_n _ _ (by omega), upI_s]; rfl
  · rw [upI_n _ _ (by omega), upI_s]; rfl
  · rw [upI_s]; rfl
theorem faultL_ok (hk : ROk 4 60 s) (hr : r < 4) (hn : s.1 r = some n) (M0 : Mem) : ∀ (k z p : Nat) (g : Nat → Gs) (M : Mem), z + k = 8 → p < 1000 + z * 10 → RowsC 4 4 60 32 6 51 s M → Eqv (fun a j => 8 ≤ a ∧ a ≤ 11 ∨ (a = 7 ∧ j = 4)) M0 M → M.1 7 4 = nI z → (∀ i, i < z → DrfC M i (g i)) →
    (∀ e M', rdL (s.2 r) n k z p g = .error e → Eqv (fun a j => 8 ≤ a ∧ a ≤ 11 ∨ (a = 7 ∧ j = 4)) M0 M' → Q (some (.int (nI e))) M') →
    (∀ z' g' M', rdL (s.2 r) n k z p g = .ok (z', g') → Eqv (fun a j => 8 ≤ a ∧ a ≤ 11 ∨ (a = 7 ∧ j = 4)) M0 M' → M'.1 7 4 = nI z' → (∀ i, i < z' → DrfC M' i (g' i)) → Q (some (.int (-9))) M') → P_X7_faultOf_80 G (nI r) (nI n) (nI p) M Q := by
  have h60 := hk r hr n hn
  intro k
  induction k with
  | zero =>
    intro z p g M hz hp hs e hz0 hg he ho
    have : z = 8 := by omega
    subst this
    unfold rdL at he ho
    refine v_X7_faultOf_80 ?_
    rw [hz0]
    refine br_f (by decide) ⟨fun c => ?_, fun c => ?_⟩
    · rw [nI_ltI (by omega) (by omega)] at c
      exact he p M (if_pos c) e
    · rw [nI_ltI (by omega) (by omega)] at c
      exact br_f (by decide) (ho 8 g M (if_neg c) e hz0 hg)
  | succ k ih =>
    intro z p g M hz hp hs e hz0 hg he ho
    refine v_X7_faultOf_80 ?_
    rw [hz0]
    unfold rdL at he ho
    refine br_t (show nI z < nI 8 from nI_lt (by omega) (by decide)) ⟨fun c => ?_, fun c => ?_⟩
    · rw [nI_ltI (by omega) (by omega)] at c
      rw [if_pos c] at he ho
      refine faultG_ok hs hk hr hn c (by omega) hz0 (fun e1 M1 q1 e2 => RI.mk ?_) (fun x M1 q1 e2 hx => RI.mk ?_)
      · rw [q1] at he
        have hb : e1 < 2 ^ 31 := by
          unfold rdG at q1
          repeat' split at q1
          all_goals first | cases q1; omega | cases q1
        exact br_f (nI_ne9 hb) (he e1 M1 rfl (e.tr (e2.mono (by omega))))
      · rw [q1] at he ho
        simp only [] at he ho
        rw [show nI p + 4 = nI (p + 4) from nI_add p 4]
        refine br_t rfl (pastB_ok (hs.eqv e2 (by omega)) hk hr hn (by omega) (RI.mk ?_))
        rintro _ rfl
        rw [e2.i (by omega), hz0, nI_1]
        have sl := skp_le (s.2 r) n (p + 4)
        have e3 : Eqv (fun a j => 8 ≤ a ∧ a ≤ 11 ∨ (a = 7 ∧ j = 4)) M0 (upI M1 7 4 (nI (z + 1))) := (e.tr (e2.mono (by omega))).upI (by omega)
        refine ih (z + 1) _ _ _ (by omega) (by omega) ((hs.eqv e2 (by omega)).eqv (P := fun a j => a = 7 ∧ j = 4) (Eqv.rf.upI ⟨rfl, rfl⟩) (by omega)) e3 (upI_s _ _ _ _) (fun i hi => ?_) he ho
        by_cases ei : i = z
        · subst ei
          rw [fu_s]
          obtain ⟨a, b, c, d⟩ := hx
          exact ⟨by rw [upI_n _ _ (by omega)]; exact a, by rw [upI_n _ _ (by omega)]; exact b, by rw [upI_n _ _ (by omega)]; exact c, by rw [upI_n _ _ (by omega)]; exact d⟩
        · rw [fu_n _ _ ei]
          obtain ⟨a, b, c, d⟩ := hg i (by omega)
          exact ⟨by rw [upI_n _ _ (by omega), e2.i (by omega)]; exact a, by rw [upI_n _ _ (by omega), e2.i (by omega)]; exact b, by rw [upI_n _ _ (by omega), e2.i (by omega)]; exact c, by rw [upI_n _ _ (by omega), e2.i (by omega)]; exact d⟩
    · have c' : ¬ p < n := fun q => c (nI_lt q (by omega))
      rw [if_neg c'] at he ho
      refine br_f c ⟨fun d => ?_, fun d => ?_⟩
      · rw [show (0 : Int32) = nI 0 from rfl, nI_eq (by omega) (by decide)] at d
        exact he p M (if_pos d) e
      · rw [show (0 : Int32) = nI 0 from rfl, nI_eq (by omega) (by decide)] at d
        exact ho z g M (if_neg d) e hz0 hg
theorem fault_ok (hs : RowsC 4 4 60 32 6 51 s M) (hk : ROk 4 60 s) (hr : r < 4) (hn : s.1 r = some n)
    (he : ∀ e M', rdT (s.2 r) n = .error e → Eqv (fun a _ => 7 ≤ a ∧ a ≤ 11) M M' → Q (some (.int (nI e))) M')
    (ho : ∀ m z g M', rdT (s.2 r) n = .ok (m, z, g) → Eqv (fun a _ => 7 ≤ a ∧ a ≤ 11) M M' → M'.1 7 5 = nI m → M'.1 7 4 = nI z → (∀ i, i < z → DrfC M' i (g i)) → Q (some (.int (-9))) M') : C_X7_faultOf G (nI r) M Q := by
  have h60 := hk r hr n hn
  refine v_X7_faultOf ?_
  rintro M1 rfl
  have e1 : Eqv (fun a k => a = 7 ∧ k = 4) M (upI M 7 4 0) := Eqv.rf.upI ⟨rfl, rfl⟩
  have hs1 := hs.eqv e1 (by omega)
  refine size_ok RPk.T hs1 hr (RI.mk ?_)
  rw [hn]
  refine pastB_ok (p := 0) hs1 hk hr hn (by omega) (RI.mk ?_)
  have sl := skp_le (s.2 r) n 0
  unfold rdT at he ho
  generalize skp (s.2 r) n 0 = q at *
  refine ⟨fun c => ?_, fun c => ?_⟩
  · have c' : q < n := by rwa [show oS (some n) = nI n from rfl, nI_ltI (by omega) (by omega)] at c
    refine read_ok RPk.T hs1 hk hr hn c' (RI.mk ⟨fun d => ?_, fun d => ?_⟩)
    · rw [if_pos ⟨c', d⟩] at he ho
      rw [nI_1]
      refine figure_ok hs1 hk hr hn (lo := 1) (hi := 8) (by omega) (by omega) (by omega) (RI.mk ?_)
      rintro M2 rfl
      have e2 : Eqv (fun a k => a = 7) M (upI (upI M 7 4 0) 7 5 (oS (fgo (s.2 r) n (q + 1) 1 8))) := (e1.mono (by omega)).upI (by omega)
      rw [upI_s, oS_m1' (fun v hv => by have := fgo_le (by omega) (by omega) hv; omega)]
      refine ⟨fun f => he _ _ (by rw [f]) (e2.mono (by omega)), fun f => ?_⟩
      obtain ⟨m, hm⟩ := Option.ne_none_iff_exists'.mp f
      rw [hm] at he ho e2 ⊢
      simp only [] at he ho
      have hs2 := hs.eqv e2 (by omega)
      rw [show nI q + 2 = nI (q + 2) from nI_add q 2]
      refine pastB_ok hs2 hk hr hn (by omega) (RI.mk ?_)
      have sl2 := skp_le (s.2 r) n (q + 2)
      refine faultL_ok hk hr hn _ 8 0 _ (fun _ => (0, 0, 0, 0)) _ rfl (by omega) hs2 Eqv.rf ?_ (fun i hi => absurd hi (Nat.not_lt_zero i)) (fun e3 M3 q3 f3 => ?_) (fun z g M3 q3 f3 g1 g2 => ?_)
      · rw [upI_n _ _ (by omega), upI_s]; rfl
      · exact he e3 M3 (by rw [q3]) ((e2.mono (by omega)).tr (f3.mono (by omega)))
      · exact ho m z g M3 (by rw [q3]) ((e2.mono (by omega)).tr (f3.mono (by omega))) (by rw [f3.i (by omega), upI_s]; rfl) g1 g2
    · rw [if_neg (fun t => d t.2)] at he
      exact he q _ rfl (e1.mono (by omega))
  · have c' : ¬ q < n := fun t => c (nI_lt t (by omega))
    rw [if_neg (fun t => c' t.1)] at he
    exact he q _ rfl (e1.mono (by omega))
end RDC
