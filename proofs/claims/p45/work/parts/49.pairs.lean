/-! promise 23: how the drawer is parted at best -/
section PAI
variable {G : Glob} {M : Mem} {Q : Option Value → Mem → Prop} {n : Nat} {S : St} {D : Dr}
/-- the first from j on, of some k -/
def ff (p : Nat → Bool) : Nat → Nat → Option Nat
  | 0, _ => none
  | k + 1, j => if p j then some j else ff p k (j + 1)
theorem ff_y {p : Nat → Bool} {k j : Nat} (h : p j = true) : ff p (k + 1) j = some j := if_pos h
theorem ff_n {p : Nat → Bool} {k j : Nat} (h : p j = false) : ff p (k + 1) j = ff p k (j + 1) := if_neg (by rw [h]; decide)
theorem ff_in {p : Nat → Bool} : ∀ (k j i : Nat), ff p k j = some i → j ≤ i ∧ i < j + k ∧ p i = true
  | 0, j, i, h => by cases h
  | k + 1, j, i, h => by
    cases q : p j with
    | true => rw [ff_y q] at h; cases h; exact ⟨Nat.le_refl _, by omega, q⟩
    | false =>
      rw [ff_n q] at h
      have := ff_in k (j + 1) i h
      exact ⟨by omega, by omega, this.2.2⟩
def pmt (D : Dr) (rest i j : Nat) : Bool := (rest ^^^ 2 ^ i).testBit j && (match wD D i j with
  | some v => v + best D (rest ^^^ 2 ^ i ^^^ 2 ^ j) == best D rest
  | none => false)
theorem pmt_f {rest i j : Nat} (h : (rest ^^^ 2 ^ i).testBit j = false) : pmt D rest i j = false := by unfold pmt; rw [h]; rfl
theorem pmt_n {rest i j : Nat} (h : wD D i j = none) : pmt D rest i j = false := by unfold pmt; rw [h]; cases (rest ^^^ 2 ^ i).testBit j <;> rfl
theorem pmt_s {rest i j v : Nat} (h : (rest ^^^ 2 ^ i).testBit j = true) (hv : wD D i j = some v) : pmt D rest i j = (v + best D (rest ^^^ 2 ^ i ^^^ 2 ^ j) == best D rest) := by unfold pmt; rw [h, hv]; rfl
theorem pmt_t {rest i j : Nat} (h : pmt D rest i j = true) : (rest ^^^ 2 ^ i).testBit j = true := by
  cases q : (rest ^^^ 2 ^ i).testBit j with
  | true => rfl
  | false => rw [pmt_f q] at h; cases h
def mate (D : Dr) (rest i : Nat) : Option Nat := if best D (rest ^^^ 2 ^ i) = best D rest then none else ff (pmt D rest i) (dn D - (i + 1)) (i + 1)
theorem mate_in {rest i j : Nat} (h : mate D rest i = some j) : i < j ∧ j < dn D ∧ (rest ^^^ 2 ^ i).testBit j = true := by
  unfold mate at h
  split at h
  · cases h
  · have := ff_in _ _ _ h
    exact ⟨by omega, by omega, pmt_t this.2.2⟩
/-- the parting from i on -/
def prt (D : Dr) (r : Nat) : Nat → Nat → Nat → RSt → RSt
  | 0, _, _, s => s
  | k + 1, i, rest, s => if rest.testBit i then (match mate D rest i with
    | none => prt D r k (i + 1) (rest ^^^ 2 ^ i) s
    | some j => prt D r k (i + 1) (rest ^^^ 2 ^ i ^^^ 2 ^ j) (rWrt (rWrt s r i (nI j)) r j (nI i))) else prt D r k (i + 1) rest s
theorem prt_f {r k i rest : Nat} {s : RSt} (h : rest.testBit i = false) : prt D r (k + 1) i rest s = prt D r k (i + 1) rest s := if_neg (by rw [h]; decide)
theorem prt_n {r k i rest : Nat} {s : RSt} (h : rest.testBit i = true) (hm : mate D rest i = none) : prt D r (k + 1) i rest s = prt D r k (i + 1) (rest ^^^ 2 ^ i) s := by
  show (if rest.testBit i then (match mate D rest i with
    | none => prt D r k (i + 1) (rest ^^^ 2 ^ i) s
    | some j => prt D r k (i + 1) (rest ^^^ 2 ^ i ^^^ 2 ^ j) (rWrt (rWrt s r i (nI j)) r j (nI i))) else prt D r k (i + 1) rest s) = _
  rw [if_pos h, hm]
theorem prt_s {r k i rest j : Nat} {s : RSt} (h : rest.testBit i = true) (hm : mate D rest i = some j) : prt D r (k + 1) i rest s = prt D r k (i + 1) (rest ^^^ 2 ^ i ^^^ 2 ^ j) (rWrt (rWrt s r i (nI j)) r j (nI i)) := by
  show (if rest.testBit i then (match mate D rest i with
    | none => prt D r k (i + 1) (rest ^^^ 2 ^ i) s
    | some j => prt D r k (i + 1) (rest ^^^ 2 ^ i ^^^ 2 ^ j) (rWrt (rWrt s r i (nI j)) r j (nI i))) else prt D r k (i + 1) rest s) = _
  rw [if_pos h, hm]
theorem nI_m1 (n : Nat) : nI (n + 1) + (-1 : Int32) = nI n := by
  rw [← nI_1, Int32.add_assoc, show (1 : Int32) + (-1) = 0 by decide, Int32.add_zero]
theorem oI_j {o : Option Nat} (h : ∀ v, o = some v → v < 8) : oI o = -9 ↔ o = none := oI_n9 fun v hv => by have := h v hv; omega
theorem fmate_loop (hk : SOk S) (hC : RC S M) (hW : WtC S.2.2.1 M) (hT : TbC S.2.2.1 (2 ^ dn S.2.2.1) M) {rest i : Nat} (hr : rest < 2 ^ dn S.2.2.1) (hi : i < dn S.2.2.1) : ∀ (k j : Nat), j + k = dn S.2.2.1 → i < j → Q (some (.int (oI (ff (pmt S.2.2.1 rest i) k j)))) M →
    P_X6_firstMate_31 G (nI i) (nI rest) (nI (rest ^^^ 2 ^ i)) (nI j) M Q := by
  have h8 := hk.2.2.1.1
  have hp := p2_257 h8
  have hx : rest ^^^ 2 ^ i < 2 ^ dn S.2.2.1 := Nat.xor_lt_two_pow hr (Nat.pow_lt_pow_right (by decide) hi)
  intro k
  induction k with
  | zero =>
    intro j hj hij h
    have : j = dn S.2.2.1 := by omega
    subst this
    refine v_X6_firstMate_31 ?_
    rw [hC.nz]
    exact br_f (nI_nlt (Nat.le_refl _) (by omega)) h
  | succ k ih =>
    intro j hj hij h
    have hj2 : j < dn S.2.2.1 := by omega
    have hy : rest ^^^ 2 ^ i ^^^ 2 ^ j < 2 ^ dn S.2.2.1 := Nat.xor_lt_two_pow hx (Nat.pow_lt_pow_right (by decide) hj2)
    refine v_X6_firstMate_31 ?_
    rw [hC.nz, nI_1 j, show (8 : Int32) = nI 8 from rfl, pk_mul, nI_add, ncl (n := 8 * j + i) (by omega), hW j i hj2 hij, wD_comm, tb_and _ (by omega) j (by omega), tb_xor _ (by omega) j (by omega), ncl (by omega), ncl (by omega), (hT _ hy).1, (hT _ hr).1]
    refine br_t (nI_lt hj2 (by omega)) ⟨vin (by omega), ?_⟩
    rintro _ rfl
    refine ⟨fun c => ih (j + 1) (by omega) (by omega) (by rw [ff_n (pmt_f c)] at h; exact h), fun c => ?_⟩
    have c' : (rest ^^^ 2 ^ i).testBit j = true := by
      cases q : (rest ^^^ 2 ^ i).testBit j
      · exact absurd q c
      · rfl
    rw [oI_n9' (fun v hv => wD_lt hk.2.2.1 hv)]
    refine ⟨fun d => ih (j + 1) (by omega) (by omega) (by rw [ff_n (pmt_n d)] at h; exact h), fun d => ⟨vin (by omega), vin (by omega), ?_⟩⟩
    obtain ⟨v, hv⟩ := Option.ne_none_iff_exists'.mp d
    have hlt := wD_lt hk.2.2.1 hv
    have hb := best_le hk.2.2.1 (rest ^^^ 2 ^ i ^^^ 2 ^ j)
    have hb2 := best_le hk.2.2.1 rest
    rw [hv, oI_some, nI_add, nI_eq (by omega) (by omega)]
    refine ⟨fun e => ?_, fun e => ?_⟩
    · rw [ff_y (by rw [pmt_s c' hv]; exact beq_iff_eq.mpr e)] at h; exact h
    · refine ih (j + 1) (by omega) (by omega) ?_
      rw [ff_n (by rw [pmt_s c' hv]; exact beq_eq_false_iff_ne.mpr e)] at h; exact h
theorem fmate_ok (hk : SOk S) (hC : RC S M) (hW : WtC S.2.2.1 M) (hT : TbC S.2.2.1 (2 ^ dn S.2.2.1) M) {rest i : Nat} (hr : rest < 2 ^ dn S.2.2.1) (hi : i < dn S.2.2.1) (h : Q (some (.int (oI (mate S.2.2.1 rest i)))) M) : C_X6_firstMate G (nI i) (nI rest) M Q := by
  have h8 := hk.2.2.1.1
  have hp := p2_257 h8
  have hx : rest ^^^ 2 ^ i < 2 ^ dn S.2.2.1 := Nat.xor_lt_two_pow hr (Nat.pow_lt_pow_right (by decide) hi)
  have hb := best_le hk.2.2.1 (rest ^^^ 2 ^ i)
  have hb2 := best_le hk.2.2.1 rest
  refine v_X6_firstMate ?_
  rw [tb_xor _ (by omega) i (by omega), nI_1]
  rintro _ rfl
  rw [ncl (by omega), ncl (by omega), (hT _ hx).1, (hT _ hr).1, nI_eq (by omega) (by omega)]
  refine ⟨vin (by omega), vin (by omega), fun c => ?_, fun c => ?_⟩
  · unfold mate at h; rw [if_pos c] at h; exact h
  · unfold mate at h; rw [if_neg c] at h
    exact fmate_loop hk hC hW hT hr hi _ _ (by omega) (by omega) h
def sR (S : St) (s : RSt) : St := (s, S.2)
theorem SOk.sR (h : SOk S) {s : RSt} (hs : ROk 6 40 s) : SOk (sR S s) := ⟨hs, h.2⟩
theorem sR_w {s : RSt} {r i : Nat} {v : Int32} : (rWrt s r i v).1 = s.1 := rfl
theorem c_wr (hk : SOk S) (hC : RC S M) {r n i : Nat} {v : Int32} (hr : r < 6) (hn : S.1.1 r = some n) (hi : i < n) (h : RC (sR S (rWrt S.1 r i v)) (upI M (45 + r) i v) → Q none (upI M (45 + r) i v)) : C_X9_write G 1 (nI r) (nI i) v M Q :=
  write_ok RPk.R hC.1 hk.1 hr hn hi (h (hC.sR hk (P := fun a _ => a = 45 + r) (Eqv.rf.upI rfl) (by omega) (hC.1.write RPk.R hr i v)))
theorem cpart_loop (hk0 : SOk S) {r : Nat} (hr : r < 6) : ∀ (k i rest : Nat) (s : RSt) (M : Mem), i + k = dn S.2.2.1 → rest < 2 ^ dn S.2.2.1 → ROk 6 40 s → s.1 r = some (dn S.2.2.1) → RC (sR S s) M → WtC S.2.2.1 M → TbC S.2.2.1 (2 ^ dn S.2.2.1) M →
    (∀ M', ROk 6 40 (prt S.2.2.1 r k i rest s) → RC (sR S (prt S.2.2.1 r k i rest s)) M' → TbC S.2.2.1 (2 ^ dn S.2.2.1) M' → EqC M M' → Q none M') → P_X6_partTo_46 G (nI r) (nI rest) (nI i) M Q := by
  have h8 := hk0.2.2.1.1
  have hp := p2_257 h8
  intro k
  induction k with
  | zero =>
    intro i rest s M hi hrest hs hn hC hW hT h
    have : i = dn S.2.2.1 := by omega
    subst this
    have hz : M.1 12 2 = nI (dn S.2.2.1) := hC.nz
    refine v_X6_partTo_46 ?_
    rw [hz]
    exact br_f (nI_nlt (Nat.le_refl _) (by omega)) (h M hs hC hT EqC.rf)
  | succ k ih =>
    intro i rest s M hi hrest hs hn hC hW hT h
    have hk : SOk (sR S s) := hk0.sR hs
    have hi2 : i < dn S.2.2.1 := by omega
    have hz : M.1 12 2 = nI (dn S.2.2.1) := hC.nz
    have hx : rest ^^^ 2 ^ i < 2 ^ dn S.2.2.1 := Nat.xor_lt_two_pow hrest (Nat.pow_lt_pow_right (by decide) hi2)
    refine v_X6_partTo_46 ?_
    rw [hz, nI_1 i, tb_and _ (by omega) i (by omega), tb_xor _ (by omega) i (by omega)]
    refine br_t (nI_lt hi2 (by omega)) ⟨fun c => ih (i + 1) rest s M (by omega) hrest hs hn hC hW hT (by rw [prt_f c] at h; exact h), fun c => ?_⟩
    have c' : rest.testBit i = true := by
      cases q : rest.testBit i
      · exact absurd q c
      · rfl
    refine fmate_ok (S := sR S s) hk hC hW hT hrest hi2 (RI.mk ?_)
    show ∀ y5 : Int32, _
    rintro _ rfl
    rw [oI_j (fun v hv => by have := (mate_in hv).2.1; have : dn (sR S s).2.2.1 ≤ 8 := h8; omega)]
    refine ⟨fun d => ih (i + 1) _ s M (by omega) hx hs hn hC hW hT (by rw [prt_n c' (show mate S.2.2.1 rest i = none from d)] at h; exact h), fun d => ?_⟩
    obtain ⟨j, hj⟩ := Option.ne_none_iff_exists'.mp d
    have hj' : mate S.2.2.1 rest i = some j := hj
    obtain ⟨j1, j2, j3⟩ := mate_in hj'
    have hy : rest ^^^ 2 ^ i ^^^ 2 ^ j < 2 ^ dn S.2.2.1 := Nat.xor_lt_two_pow hx (Nat.pow_lt_pow_right (by decide) j2)
    rw [hj, oI_some]
    rintro _ rfl
    rw [tb_xor _ (by omega) j (by omega)]
    refine c_wr (n := dn S.2.2.1) hk hC hr hn hi2 fun hC1 => RV.mk ?_
    have hs1 : ROk 6 40 (rWrt s r i (nI j)) := hs
    refine c_wr (n := dn S.2.2.1) (S := sR S (rWrt s r i (nI j))) (hk0.sR hs1) hC1 hr hn j2 fun hC2 => RV.mk ?_
    refine ih (i + 1) _ (rWrt (rWrt s r i (nI j)) r j (nI i)) _ (by omega) hy hs1 hn hC2 (fun a b ha hb => ?_) (fun m hm => ?_) fun M' g1 g2 g3 g4 => ?_
    · rw [upI_n _ _ (by omega), upI_n _ _ (by omega)]; exact hW a b ha hb
    · rw [upI_n _ _ (by omega), upI_n _ _ (by omega), upI_n _ _ (by omega), upI_n _ _ (by omega)]; exact hT m hm
    · rw [prt_s c' hj'] at h
      exact h M' g1 g2 g3 (((EqC.rf.upI (by omega)).upI (by omega)).tr g4)
theorem tb_b {m i : Nat} (h : ∀ k, k < i → m.testBit k = false) (hm : m < 2 ^ i) : m = 0 := by
  refine Nat.eq_of_testBit_eq fun k => ?_
  rw [Nat.zero_testBit]
  by_cases c : k < i
  · exact h k c
  · exact tb_hi hm (by omega)
theorem xor_bt {m i k : Nat} (h : k ≠ i) : (m ^^^ 2 ^ i).testBit k = m.testBit k := by rw [Nat.testBit_xor, Nat.testBit_two_pow]; simp [Ne.symm h]
theorem xor_bi {m i : Nat} (h : m.testBit i = true) : (m ^^^ 2 ^ i).testBit i = false := by rw [Nat.testBit_xor, Nat.testBit_two_pow, h]; simp
theorem m_wr {s : RSt} (hM : RM (sR S s) M) (hs : ROk 6 40 s) {r i : Nat} {v : Int32} (hr : r < 6) (hi : i < 40) : RM (sR S (rWrt s r i v)) (upI M 73 (40 * r + i) v) :=
  RM.sR (S := sR S s) hM (P := fun a _ => a = 73) (Eqv.rf.upI rfl) (by omega) (RowsM.wr40 hM.1 hs hr hi v)
/-- NONE everywhere -/
def noneR (s : RSt) (r : Nat) : Nat → RSt
  | 0 => s
  | i + 1 => rWrt (noneR s r i) r i (-9)
theorem noneR_1 (s : RSt) (r : Nat) : ∀ i, (noneR s r i).1 = s.1
  | 0 => rfl
  | i + 1 => noneR_1 s r i
theorem cnone_loop (hk0 : SOk S) {r : Nat} (hr : r < 6) {s : RSt} (hs : ROk 6 40 s) (hn : s.1 r = some (dn S.2.2.1)) : ∀ (k i : Nat) (M : Mem), i + k = dn S.2.2.1 → RC (sR S (noneR s r i)) M → WtC S.2.2.1 M → TbC S.2.2.1 (2 ^ dn S.2.2.1) M →
    (∀ M', RC (sR S (noneR s r (dn S.2.2.1))) M' → WtC S.2.2.1 M' → TbC S.2.2.1 (2 ^ dn S.2.2.1) M' → EqC M M' → P_X6_partTo_46 G (nI r) (nI (sIn S.2.2.1 0)) 0 M' Q) → P_X6_partTo_12 G (nI r) (nI i) M Q := by
  have h8 := hk0.2.2.1.1
  intro k
  induction k with
  | zero =>
    intro i M hi hC hW hT h
    have : i = dn S.2.2.1 := by omega
    subst this
    have hz : M.1 12 2 = nI (dn S.2.2.1) := hC.nz
    refine v_X6_partTo_12 ?_
    rw [hz]
    exact br_f (nI_nlt (Nat.le_refl _) (by omega)) (set_ok (w := 0) hk0.2.2.1 hC.2.2.1 (by decide) (RI.mk (h M hC hW hT EqC.rf)))
  | succ k ih =>
    intro i M hi hC hW hT h
    have hz : M.1 12 2 = nI (dn S.2.2.1) := hC.nz
    have hs1 : ROk 6 40 (noneR s r i) := by intro a ha m hm; rw [noneR_1] at hm; exact hs a ha m hm
    refine v_X6_partTo_12 ?_
    rw [hz, nI_1 i]
    refine br_t (nI_lt (by omega) (by omega)) (c_wr (n := dn S.2.2.1) (S := sR S (noneR s r i)) (hk0.sR hs1) hC hr (by show (noneR s r i).1 r = _; rw [noneR_1]; exact hn) (by omega) fun hC1 => RV.mk ?_)
    refine ih (i + 1) _ (by omega) hC1 (fun a b ha hb => ?_) (fun m hm => ?_) fun M' g1 g2 g3 g4 => h M' g1 g2 g3 ((EqC.rf.upI (by omega)).tr g4)
    · rw [upI_n _ _ (by omega)]; exact hW a b ha hb
    · rw [upI_n _ _ (by omega), upI_n _ _ (by omega)]; exact hT m hm
end PAI
