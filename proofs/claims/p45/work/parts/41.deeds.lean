/-! deeds, where gloves are, sets of them -/
theorem nx_or (a b : Nat) : nI a ||| nI b = nI (a ||| b) := by
  apply Int32.toBitVec_inj.1
  show BitVec.ofNat 32 a ||| BitVec.ofNat 32 b = BitVec.ofNat 32 (a ||| b)
  apply BitVec.eq_of_getLsbD_eq
  intro i hi
  simp [hi]
theorem nx_and (a b : Nat) : nI a &&& nI b = nI (a &&& b) := by
  apply Int32.toBitVec_inj.1
  show BitVec.ofNat 32 a &&& BitVec.ofNat 32 b = BitVec.ofNat 32 (a &&& b)
  apply BitVec.eq_of_getLsbD_eq
  intro i hi
  simp [hi]
theorem nx_xor (a b : Nat) : nI a ^^^ nI b = nI (a ^^^ b) := by
  apply Int32.toBitVec_inj.1
  show BitVec.ofNat 32 a ^^^ BitVec.ofNat 32 b = BitVec.ofNat 32 (a ^^^ b)
  apply BitVec.eq_of_getLsbD_eq
  intro i hi
  simp [hi]
theorem sh1_tab : ∀ i, i < 31 → (1 : Int32) <<< (nI i &&& 31) = nI (2 ^ i) := by decide +kernel
/-- a set of those below n, as bits -/
def sb (p : Nat → Bool) : Nat → Nat
  | 0 => 0
  | n + 1 => sb p n ||| (if p n then 2 ^ n else 0)
theorem sb_tb (p : Nat → Bool) : ∀ n i, (sb p n).testBit i = (decide (i < n) && p i)
  | 0, i => by simp [sb]
  | n + 1, i => by
    unfold sb
    rw [Nat.testBit_or, sb_tb p n i]
    by_cases e : i = n
    · subst e
      cases h : p i <;> simp
    · have e2 : (if p n then 2 ^ n else 0).testBit i = false := by
        split
        · rw [Nat.testBit_two_pow]; simp; omega
        · simp
      rw [e2, Bool.or_false]
      congr 1
      by_cases c : i < n
      · simp [c]; omega
      · simp [c]; omega
theorem sb_lt (p : Nat → Bool) (n : Nat) : sb p n < 2 ^ n := by
  refine Nat.lt_pow_two_of_testBit _ fun i hi => ?_
  rw [sb_tb]
  simp; omega
theorem p256 {n m : Nat} (hn : n ≤ 8) (h : m < 2 ^ n) : m < 256 := Nat.lt_of_lt_of_le h (Nat.pow_le_pow_right (by decide) hn)
/-- how many there are -/
def pop (m : Nat) : Nat := m % 2 + m / 2 % 2 + m / 4 % 2 + m / 8 % 2 + m / 16 % 2 + m / 32 % 2 + m / 64 % 2 + m / 128 % 2
theorem pop_le (m : Nat) : pop m ≤ 8 := by unfold pop; omega
def bcF (x0 : Int32) : Int32 :=
  let y1 := x0 - ((x0.toUInt32 >>> (Int32.toUInt32 1 &&& Int32.toUInt32 31)).toInt32 &&& 1431655765)
  let y2 := (y1 &&& 858993459) + ((y1.toUInt32 >>> (Int32.toUInt32 2 &&& Int32.toUInt32 31)).toInt32 &&& 858993459)
  let y3 := (y2 + (y2.toUInt32 >>> (Int32.toUInt32 4 &&& Int32.toUInt32 31)).toInt32) &&& 252645135
  let y4 := y3 + (y3.toUInt32 >>> (Int32.toUInt32 8 &&& Int32.toUInt32 31)).toInt32
  let y5 := y4 + (y4.toUInt32 >>> (Int32.toUInt32 16 &&& Int32.toUInt32 31)).toInt32
  y5 &&& 63
set_option maxRecDepth 100000 in
theorem bc_tab : ∀ m, m < 256 → bcF (nI m) = nI (pop m) := by decide +kernel
set_option maxRecDepth 100000 in
theorem bit_tab : ∀ m, m < 256 → ∀ k, k < 8 → ((nI m >>> (nI k &&& 31)) &&& 1) = nI (m / 2 ^ k % 2) := by decide +kernel
def WsC (n : Nat) (s : Nat → Nat × Nat) (M : Mem) : Prop := ∀ i, i < n → M.1 (55 + i) 4 = nI (s i).1 ∧ M.1 (55 + i) 5 = nI (s i).2
def WsM (n : Nat) (s : Nat → Nat × Nat) (M : Mem) : Prop := ∀ i, i < n → M.1 87 i = nI (s i).1 ∧ M.1 86 i = nI (s i).2
def PW (a k : Nat) : Prop := 55 ≤ a ∧ a ≤ 62 ∧ 4 ≤ k
def PWM (a _k : Nat) : Prop := a = 86 ∨ a = 87
theorem apD0 (s : Nat → Nat × Nat) (i j : Nat) : apD s (0, i, j) = s := rfl
section DEE
variable {G : Glob} {M : Mem} {Q : Option Value → Mem → Prop} {n : Nat} {s : Nat → Nat × Nat} {S : St}
theorem bitc_ok {m : Nat} (hm : m < 256) (h : Q (some (.int (nI (pop m)))) M) : C_J6_bitCount_0f7a4 G (nI m) M Q := by
  refine v_J6_bitCount_0f7a4 ?_
  rintro _ rfl _ rfl _ rfl _ rfl _ rfl
  rw [← bc_tab m hm] at h
  exact h
theorem has_y (hz : M.1 12 2 = nI n) (hn : n ≤ 8) {i : Nat} (hi : i < n) (h : Q (some (.int 1)) M) : C_X3_has G (nI i) M Q :=
  v_X3_has (br_f (nI_pos (by omega)) (by rw [hz]; exact br_t (nI_lt hi (by omega)) h))
theorem has_n (hz : M.1 12 2 = nI n) {x : Int32} (hx : x < 0 ∨ nI n ≤ x) (h : Q (some (.int 0)) M) : C_X3_has G x M Q :=
  v_X3_has ⟨fun _ => h, fun c => by rw [hz]; exact br_f (Int32.not_lt.mpr (hx.resolve_left c)) h⟩
theorem carry_ok (hz : M.1 12 2 = nI n) (hn : n ≤ 8) {d : Deed} (hd : DdOk n d) (hs : WsC n s M) (h : ∀ M', Eqv PW M M' → WsC n (apD s d) M' → Q none M') : C_X3_carryOut G (nI d.1) (nI d.2.1) (nI d.2.2) M Q := by
  obtain ⟨w, i, j⟩ := d
  obtain ⟨h1, h2, h3, h4, h5, h6⟩ := hd
  simp only [] at *
  refine v_X3_carryOut (has_y hz hn h2 (RI.mk (br_f (by decide) (has_y hz hn h3 (RI.mk (br_f (by decide) ?_))))))
  rw [ncl (by omega), ncl (by omega)]
  rcases (show w = 0 ∨ w = 1 ∨ w = 2 ∨ w = 3 ∨ w = 4 by omega) with rfl | rfl | rfl | rfl | rfl
  · exact br_f (by decide) (br_f (by decide) (br_f (by decide) (br_f (by decide) (h M Eqv.rf hs))))
  · have hij := h6 rfl
    refine br_t rfl ⟨vin (by omega), ?_⟩
    rintro _ rfl
    refine ⟨vin (by omega), ?_⟩
    rintro _ rfl
    refine h _ ((Eqv.rf.upI (by unfold PW; omega)).upI (by unfold PW; omega)) fun t ht => ?_
    show _ = nI (if t = i ∨ t = j then ((s t).1 + 1, (s t).2) else s t).1 ∧ _ = nI (if t = i ∨ t = j then ((s t).1 + 1, (s t).2) else s t).2
    by_cases c1 : t = i
    · subst c1
      rw [if_pos (Or.inl rfl), upI_n _ _ (by omega), upI_s, upI_n _ _ (by omega), upI_n _ _ (by omega), (hs t ht).1, nI_1]
      exact ⟨rfl, (hs t ht).2⟩
    · by_cases c2 : t = j
      · subst c2
        rw [if_pos (Or.inr rfl), upI_s, upI_n _ _ (by omega), upI_n _ _ (by omega), upI_n _ _ (by omega), (hs t ht).1, nI_1]
        exact ⟨rfl, (hs t ht).2⟩
      · rw [if_neg (by omega), upI_n _ _ (by omega), upI_n _ _ (by omega), upI_n _ _ (by omega), upI_n _ _ (by omega)]
        exact hs t ht
  · refine br_f (by decide) (br_t rfl ⟨vin (by omega), ?_⟩)
    rintro _ rfl
    refine h _ (Eqv.rf.upI (by unfold PW; omega)) fun t ht => ?_
    show _ = nI (if t = i then ((s t).1, 1) else s t).1 ∧ _ = nI (if t = i then ((s t).1, 1) else s t).2
    by_cases c1 : t = i
    · subst c1
      rw [if_pos rfl, upI_n _ _ (by omega), upI_s]
      exact ⟨(hs t ht).1, rfl⟩
    · rw [if_neg c1, upI_n _ _ (by omega), upI_n _ _ (by omega)]
      exact hs t ht
  · refine br_f (by decide) (br_f (by decide) (br_t rfl ⟨vin (by omega), ?_⟩))
    rintro _ rfl
    refine h _ (Eqv.rf.upI (by unfold PW; omega)) fun t ht => ?_
    show _ = nI (if t = i then ((s t).1, 0) else s t).1 ∧ _ = nI (if t = i then ((s t).1, 0) else s t).2
    by_cases c1 : t = i
    · subst c1
      rw [if_pos rfl, upI_n _ _ (by omega), upI_s]
      exact ⟨(hs t ht).1, rfl⟩
    · rw [if_neg c1, upI_n _ _ (by omega), upI_n _ _ (by omega)]
      exact hs t ht
  · refine br_f (by decide) (br_f (by decide) (br_f (by decide) (br_t rfl ⟨vin (by omega), ?_⟩)))
    rintro _ rfl
    refine h _ (Eqv.rf.upI (by unfold PW; omega)) fun t ht => ?_
    show _ = nI (if t = i then ((s t).1, 2) else s t).1 ∧ _ = nI (if t = i then ((s t).1, 2) else s t).2
    by_cases c1 : t = i
    · subst c1
      rw [if_pos rfl, upI_n _ _ (by omega), upI_s]
      exact ⟨(hs t ht).1, rfl⟩
    · rw [if_neg c1, upI_n _ _ (by omega), upI_n _ _ (by omega)]
      exact hs t ht
/-! all deeds once more -/
theorem ge_app (L : List Deed) (d : Deed) : (L ++ [d])[L.length]? = some d := by simp
theorem ge_lt {L : List Deed} {j : Nat} (h : j < L.length) : ∃ d, L[j]? = some d ∧ d ∈ L := ⟨L[j], by simp [h], List.getElem_mem h⟩
theorem ge_of {L : List Deed} {j : Nat} {d : Deed} (h : L[j]? = some d) : j < L.length := by
  rw [List.getElem?_eq_some_iff] at h
  exact h.1
theorem tk_s {L : List Deed} {j : Nat} {d : Deed} (h : L[j]? = some d) : L.take (j + 1) = L.take j ++ [d] := by
  rw [List.take_succ, h]
  rfl
theorem repl1 (hn : n ≤ 8) (M0 : Mem) (hz : M0.1 12 2 = nI n) : ∀ (k i : Nat) (M : Mem), i + k = n → Eqv PW M0 M → WsC i (fun _ => (0, 0)) M →
    (∀ M', Eqv PW M0 M' → WsC n (fun _ => (0, 0)) M' → P_X3_replay_38 G 0 M' Q) → P_X3_replay_2 G (nI i) M Q := by
  intro k
  induction k with
  | zero =>
    intro i M hi e hw h
    have : i = n := by omega
    subst this
    refine v_X3_replay_2 ?_
    rw [e.i (by unfold PW; omega), hz]
    exact br_f (nI_nlt (Nat.le_refl _) (by omega)) (h M e hw)
  | succ k ih =>
    intro i M hi e hw h
    refine v_X3_replay_2 ?_
    rw [e.i (by unfold PW; omega), hz]
    refine br_t (nI_lt (by omega) (by omega)) ⟨vin (by omega), ?_⟩
    rintro _ rfl
    refine ⟨vin (by omega), ?_⟩
    rintro _ rfl
    rw [ncl (by omega), nI_1]
    refine ih (i + 1) _ (by omega) ((e.upI (by unfold PW; omega)).upI (by unfold PW; omega)) (fun t ht => ?_) h
    by_cases c : t = i
    · subst c
      rw [upI_n _ _ (by omega), upI_s, upI_s]
      exact ⟨rfl, rfl⟩
    · rw [upI_n _ _ (by omega), upI_n _ _ (by omega), upI_n _ _ (by omega), upI_n _ _ (by omega)]
      exact hw t (by omega)
theorem cod_ps {d : Deed} (h : DdOk 8 d) : cod d / 100 = d.1 ∧ cod d / 10 % 10 = d.2.1 ∧ cod d % 10 = d.2.2 ∧ cod d < 600 := by
  obtain ⟨h1, h2, h3, -⟩ := h
  unfold cod
  omega
theorem DdOk.mono {m : Nat} {d : Deed} (h : DdOk n d) (hm : n ≤ m) : DdOk m d := ⟨h.1, by have := h.2.1; omega, by have := h.2.2.1; omega, h.2.2.2⟩
theorem repl2 (hn : n ≤ 8) {L : List Deed} (hL : LOk n L) (M0 : Mem) (hz : M0.1 12 2 = nI n) (hl : M0.1 14 1 = nI L.length) (hc : LsC 15 L M0) : ∀ (k m : Nat) (M : Mem), m + k = L.length → Eqv PW M0 M → WsC n (runD (L.take m)) M →
    (∀ M', Eqv PW M0 M' → WsC n (runD L) M' → Q none M') → P_X3_replay_38 G (nI m) M Q := by
  have h40 := hL.1
  intro k
  induction k with
  | zero =>
    intro m M hm e hw h
    have : m = L.length := by omega
    subst this
    refine v_X3_replay_38 ?_
    rw [e.i (by unfold PW; omega), hl]
    rw [List.take_length] at hw
    exact br_f (nI_nlt (Nat.le_refl _) (by omega)) (h M e hw)
  | succ k ih =>
    intro m M hm e hw h
    obtain ⟨d, hd, hd2⟩ := ge_lt (L := L) (j := m) (by omega)
    have hdk := hL.2 d hd2
    obtain ⟨c1, c2, c3, c4⟩ := cod_ps (hdk.mono hn)
    refine v_X3_replay_38 ?_
    rw [e.i (by unfold PW; omega), hl]
    refine br_t (nI_lt (by omega) (by omega)) ⟨vin (by omega), ?_⟩
    rintro _ rfl
    rw [ncl (by omega), e.i (by unfold PW; omega), hc m d hd, show (100 : Int32) = nI 100 from rfl, show (10 : Int32) = nI 10 from rfl, pk_rem (by omega) (by omega) (by omega), pk_div (by omega) (by omega) (by omega), pk_div (by omega) (by omega) (by omega), pk_rem (by omega) (by omega) (by omega), c1, c2, c3]
    refine carry_ok (by rw [e.i (by unfold PW; omega)]; exact hz) hn hdk hw fun M' e' hw' => RV.mk ?_
    rw [nI_1]
    refine ih (m + 1) M' (by omega) (e.tr e') ?_ h
    rw [tk_s hd, runD_app]
    exact hw'
theorem replay_ok (hn : n ≤ 8) {L : List Deed} (hL : LOk n L) (hz : M.1 12 2 = nI n) (hl : M.1 14 1 = nI L.length) (hc : LsC 15 L M) (h : ∀ M', Eqv PW M M' → WsC n (runD L) M' → Q none M') : C_X3_replay G M Q := by
  refine v_X3_replay (repl1 hn M hz n 0 M (by omega) Eqv.rf (fun i hi => absurd hi (Nat.not_lt_zero i)) fun M1 e1 w1 => ?_)
  refine repl2 hn hL M hz hl hc L.length 0 M1 (by omega) e1 ?_ h
  rw [List.take_zero]
  exact w1
/-! the drawer with other deeds -/
def sL (S : St) (L : List Deed) : St := (S.1, S.2.1, (S.2.2.1.1, S.2.2.1.2.1, S.2.2.1.2.2.1, L), S.2.2.2)
theorem SOk.sL (h : SOk S) {L : List Deed} (hL : LOk (dn S.2.2.1) L) : SOk (sL S L) := ⟨h.1, h.2.1, ⟨h.2.2.1.1, h.2.2.1.2.1, h.2.2.1.2.2.1, hL⟩, h.2.2.2⟩
theorem DrC.deeds {D : Dr} {M' : Mem} (h : DrC D M) (hk : dn D ≤ 8) {L : List Deed} (e : Eqv (fun a k => PW a k ∨ (a = 14 ∧ k = 1) ∨ a = 15) M M') (hl : M'.1 14 1 = nI L.length) (hL : LsC 15 L M') (hw : WsC (dn D) (runD L) M') : DrC (D.1, D.2.1, D.2.2.1, L) M' := by
  obtain ⟨a, b, c, -, -⟩ := h
  refine ⟨by rw [e.i (by unfold PW; omega)]; exact a, by rw [e.i (by unfold PW; omega)]; exact b, fun i hi => ?_, hl, hL⟩
  obtain ⟨⟨c1, c2, c3, c4, -⟩, -⟩ := c i hi
  exact ⟨⟨by rw [e.i (by unfold PW; omega)]; exact c1, by rw [e.i (by unfold PW; omega)]; exact c2, by rw [e.i (by unfold PW; omega)]; exact c3, by rw [e.i (by unfold PW; omega)]; exact c4, (hw i hi).1⟩, (hw i hi).2⟩
theorem DrM.deeds {D : Dr} {M' : Mem} (h : DrM D M) {L : List Deed} (e : Eqv (fun a k => PWM a k ∨ (a = 71 ∧ k = 27) ∨ a = 88) M M') (hl : M'.1 71 27 = nI L.length) (hL : LsM 88 0 L M') (hw : WsM (dn D) (runD L) M') : DrM (D.1, D.2.1, D.2.2.1, L) M' := by
  obtain ⟨a, b, c, -, -⟩ := h
  refine ⟨by rw [e.i (by unfold PWM; omega)]; exact a, by rw [e.i (by unfold PWM; omega)]; exact b, fun i hi => ?_, hl, hL⟩
  obtain ⟨⟨c1, c2, c3, c4, -⟩, -⟩ := c i hi
  exact ⟨⟨by rw [e.i (by unfold PWM; omega)]; exact c1, by rw [e.i (by unfold PWM; omega)]; exact c2, by rw [e.i (by unfold PWM; omega)]; exact c3, by rw [e.i (by unfold PWM; omega)]; exact c4, (hw i hi).1⟩, (hw i hi).2⟩
theorem DrC.ws {D : Dr} (h : DrC D M) : WsC (dn D) (runD (dL D)) M := fun i hi => ⟨(h.2.2.1 i hi).1.2.2.2.2, (h.2.2.1 i hi).2⟩
theorem DrM.ws {D : Dr} (h : DrM D M) : WsM (dn D) (runD (dL D)) M := fun i hi => ⟨(h.2.2.1 i hi).1.2.2.2.2, (h.2.2.1 i hi).2⟩
theorem WsC.eqv {M' : Mem} {P : Nat → Nat → Prop} (h : WsC n s M) (e : Eqv P M M') (hp : ∀ a k, P a k → ¬ (55 ≤ a ∧ a < 55 + n ∧ 4 ≤ k ∧ k ≤ 5)) : WsC n s M' := fun i hi =>
  ⟨by rw [e.i (fun q => hp _ _ q (by omega))]; exact (h i hi).1, by rw [e.i (fun q => hp _ _ q (by omega))]; exact (h i hi).2⟩
theorem WsM.eqv {M' : Mem} {P : Nat → Nat → Prop} (h : WsM n s M) (e : Eqv P M M') (hp : ∀ a k, P a k → a ≠ 86 ∧ a ≠ 87) : WsM n s M' := fun i hi =>
  ⟨by rw [e.i (fun q => (hp _ _ q).2 rfl)]; exact (h i hi).1, by rw [e.i (fun q => (hp _ _ q).1 rfl)]; exact (h i hi).2⟩
theorem ge_cases {L : List Deed} {d e : Deed} {j : Nat} (h : (L ++ [d])[j]? = some e) : (j < L.length ∧ L[j]? = some e) ∨ (j = L.length ∧ e = d) := by
  by_cases c : j < L.length
  · rw [List.getElem?_append_left c] at h
    exact Or.inl ⟨c, h⟩
  · rw [List.getElem?_append_right (by omega)] at h
    have := ge_of h
    simp only [List.length_singleton] at this
    have e0 : j - L.length = 0 := by omega
    rw [e0] at h
    simp at h
    exact Or.inr ⟨by omega, h.symm⟩
theorem LOk.app {L : List Deed} {d : Deed} (h : LOk n L) (hl : L.length < 40) (hd : DdOk n d) : LOk n (L ++ [d]) := by
  refine ⟨by simp; omega, fun x hx => ?_⟩
  rcases List.mem_append.mp hx with q | q
  · exact h.2 x q
  · rw [List.mem_singleton.mp q]; exact hd
theorem c_act (hk : SOk S) (hC : RC S M) {d : Deed} (hd : DdOk (dn S.2.2.1) d) (hlen : (dL S.2.2.1).length < 40) (h : ∀ M', RC (sL S (dL S.2.2.1 ++ [d])) M' → EqC M M' → Q none M') : C_X3_act G (nI d.1) (nI d.2.1) (nI d.2.2) M Q := by
  obtain ⟨a, b, c, hl, hL⟩ := hC.2.2.1
  have hk8 := hk.2.2.1.1
  refine v_X3_act (v_X2_add rfl ?_)
  rw [hl, show (100 : Int32) = nI 100 from rfl, show (10 : Int32) = nI 10 from rfl, pk_mul, pk_mul, nI_add, nI_add, show 100 * d.1 + 10 * d.2.1 + d.2.2 = cod d from rfl]
  refine br_f (nI_pos (by omega)) (br_t (show nI _ < nI 40 from nI_lt hlen (by omega)) ⟨vin hlen, ?_⟩)
  rintro _ rfl _ rfl
  rw [ncl (by omega), upI_n _ _ (show ¬ (14 = rf 14 0 ∧ 1 = _) from fun q => absurd q.1 (by decide)), hl, nI_1]
  refine RV.mk ?_
  show C_X3_carryOut G (nI d.1) (nI d.2.1) (nI d.2.2) (upI (upI M 15 (dL S.2.2.1).length (nI (cod d))) 14 1 (nI ((dL S.2.2.1).length + 1))) _
  have e1 : Eqv (fun a k => (a = 14 ∧ k = 1) ∨ (a = 15)) M (upI (upI M 15 (dL S.2.2.1).length (nI (cod d))) 14 1 (nI ((dL S.2.2.1).length + 1))) := (Eqv.rf.upI (by omega)).upI (by omega)
  refine carry_ok (n := dn S.2.2.1) (by rw [e1.i (by omega)]; exact a) hk8 hd (hC.2.2.1.ws.eqv e1 (by omega)) fun M2 e2 w2 => RV.mk ?_
  have e12 : Eqv (fun a k => PW a k ∨ (a = 14 ∧ k = 1) ∨ a = 15) M M2 := (e1.mono (by omega)).tr (e2.mono fun a k q => Or.inl q)
  have hl2 : M2.1 14 1 = nI (dL S.2.2.1 ++ [d]).length := by
    rw [e2.i (by unfold PW; omega), upI_s, List.length_append, List.length_singleton]
  have hL2 : LsC 15 (dL S.2.2.1 ++ [d]) M2 := fun j x hj => by
    rw [e2.i (by unfold PW; omega), upI_n _ _ (by omega)]
    rcases ge_cases hj with ⟨q, q2⟩ | ⟨q, q2⟩
    · rw [upI_n _ _ (by omega)]; exact hL j x q2
    · rw [q, q2, upI_s]
  refine h M2 (hC.sD e12 (by unfold PW; omega) (hC.2.2.1.deeds hk8 e12 hl2 hL2 ?_)) (e12.mono (by unfold PW; omega))
  rw [runD_app]
  exact w2
end DEE
