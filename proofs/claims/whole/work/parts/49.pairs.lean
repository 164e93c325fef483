/-! promise 23: how the drawer is parted at best -/
section PAI
variable {G : Glob} {M : Mem} {Q : Option Value → Mem → Prop} {n : Nat} {S : St} {D : Dr}
/-- the first from j on, of some k -/
def ff (p : Nat → Bool) : Nat → Nat → Option Nat
  | 0, _ => none
  | k + 1, j => if p j then some j else ff p k (j + 1)
theorem ff_y {p : Nat → Bool} {k j : Nat} (h : p j = true) : ff p (k + 1) j = some j := if_pos h
theorem ff_n {p : Nat → Bool} {k j : Nat} (h : p j = false) : ff p (k + 1) j = ff p k (j + 1) := if_neg (by rw [h]; decide)
theorem ff_in {p : Nat → Bool} : ∀ (k j i : Nat), ff p k j = some i → j ≤ i ∧ i < j + k ∧ p i = true
  | 0, j, i, h => by cases h
  | k + 1, j, i, h => by
    cases q : p j with
    | true => rw [ff_y q] at h; cases h; exact ⟨Nat.le_refl _, by omega, q⟩
    | false =>
      rw [ff_n q] at h
      have := ff_in k (j + 1) i h
      exact ⟨by omega, by omega, this.2.2⟩
def pmt (D : Dr) (rest i j : Nat) : Bool := (rest ^^^ 2 ^ i).testBit j && (match wD D i j with
  | some v => v + best D (rest ^^^ 2 ^ i ^^^ 2 ^ j) == best D rest
  | none => false)
theorem pmt_f {rest i j : Nat} (h : (rest ^^^ 2 ^ i).testBit j = false) : pmt D rest i j = false := by unfold pmt; rw [h]; rfl
theorem pmt_n {rest i j : Nat} (h : wD D i j = none) : pmt D rest i j = false := by unfold pmt; rw [h]; cases (rest ^^^ 2 ^ i).testBit j <;> rfl
theorem pmt_s {rest i j v : Nat} (h : (rest ^^^ 2 ^ i).testBit j = true) (hv : wD D i j = some v) : pmt D rest i j = (v + best D (rest ^^^ 2 ^ i ^^^ 2 ^ j) == best D rest) := by unfold pmt; rw [h, hv]; rfl
theorem pmt_t {rest i j : Nat} (h : pmt D rest i j = true) : (rest ^^^ 2 ^ i).testBit j = true := by
  cases q : (rest ^^^ 2 ^ i).testBit j with
  | true => rfl
  | false => rw [pmt_f q] at h; cases h
def mate (D : Dr) (rest i : Nat) : Option Nat := if best D (rest ^^^ 2 ^ i) = best D rest then none else ff (pmt D rest i) (dn D - (i + 1)) (i + 1)
theorem mate_in {rest i j : Nat} (h : mate D rest i = some j) : i < j ∧ j < dn D ∧ (rest ^^^ 2 ^ i).testBit j = true := by
  unfold mate at h
  split at h
  · cases h
  · have := ff_in _ _ _ h
    exact ⟨by omega, by omega, pmt_t this.2.2⟩
/-- the parting from i on -/
def prt (D : Dr) (r : Nat) : Nat → Nat → Nat → RSt → RSt
  | 0, _, _, s => s
  | k + 1, i, rest, s => if rest.testBit i then (match mate D rest i with
    | none => prt D r k (i + 1) (rest ^^^ 2 ^ i) s
    | some j => prt D r k (i + 1) (rest ^^^ 2 ^ i ^^^ 2 ^ j) (rWrt (rWrt s r i (nI j)) r j (nI i))) else prt D r k (i + 1) rest s
theorem prt_f {r k i rest : Nat} {s : RSt} (h : rest.testBit i = false) : prt D r (k + 1) i rest s = prt D r k (i + 1) rest s := if_neg (by rw [h]; decide)
theorem prt_n {r k i rest : Nat} {s : RSt} (h : rest.testBit i = true) (hm : mate D rest i = none) : prt D r (k + 1) i rest s = prt D r k (i + 1) (rest ^^^ 2 ^ i) s := by
  show (if rest.testBit i then (match mate D rest i with
    | none => prt D r k (i + 1) (rest ^^^ 2 ^ i) s
    | some j => prt D r k (i + 1) (rest ^^^ 2 ^ i ^^^ 2 ^ j) (rWrt (rWrt s r i (nI j)) r j (nI i))) else prt D r k (i + 1) rest s) = _
  rw [if_pos h, hm]
theorem prt_s {r k i rest j : Nat} {s : RSt} (h : rest.testBit i = true) (hm : mate D rest i = some j) : prt D r (k + 1) i rest s = prt D r k (i + 1) (rest ^^^ 2 ^ i ^^^ 2 ^ j) (rWrt (rWrt s r i (nI j)) r j (nI i)) := by
  show (if rest.testBit i then (match mate D rest i with
    | none => prt D r k (i + 1) (rest ^^^ 2 ^ i) s
    | some j => prt D r k (i + 1) (rest ^^^ 2 ^ i ^^^ 2 ^ j) (rWrt (rWrt s r i (nI j)) r j (nI i))) else prt D r k (i + 1) rest s) = _
  rw [if_pos h, hm]
theorem nI_m1 (n : Nat) : nI (n + 1) + (-1 : Int32) = nI n := by
  rw [← nI_1, Int32.add_assoc, show (1 : Int32) + (-1) = 0 by decide, Int32.add_zero]
theorem oI_j {o : Option Nat} (h : ∀ v, o = some v → v < 8) : oI o = -9 ↔ o = none := oI_n9 fun v hv => by have := h v hv; omega
theorem fmate_loop (hk : SOk S) (hC : RC S M) (hW : WtC S.2.2.1 M) (hT : TbC S.2.2.1 (2 ^ dn S.2.2.1) M) {rest i : Nat} (hr : rest < 2 ^ dn S.2.2.1) (hi : i < dn S.2.2.1) : ∀ (k j : Nat), j + k = dn S.2.2.1 → i < j → Q (some (.int (oI (ff (pmt S.2.2.1 rest i) k j)))) M →
    P_X6_firstMate_31 G (nI i) (nI rest) (nI (rest ^^^ 2 ^ i)) (nI j) M Q := by
  have h8 := hk.2.2.1.1
  have hp := p2_257 h8
  have hx : rest ^^^ 2 ^ i < 2 ^ dn S.2.2.1 := Nat.xor_lt_two_pow hr (Nat.pow_lt_pow_right (by decide) hi)
  intro k
  induction k with
  | zero =>
    intro j hj hij h
    have : j = dn S.2.2.1 := by omega
    subst this
    refine v_X6_firstMate_31 ?_
    rw [hC.nz]
    exact br_f (nI_nlt (Nat.le_refl _) (by omega)) h
  | succ k ih =>
    intro j hj hij h
    have hj2 : j < dn S.2.2.1 := by omega
    have hy : rest ^^^ 2 ^ i ^^^ 2 ^ j < 2 ^ dn S.2.2.1 := Nat.xor_lt_two_pow hx (Nat.pow_lt_pow_right (by decide) hj2)
    refine v_X6_firstMate_31 ?_
    rw [hC.nz, nI_1 j, show (8 : Int32) = nI 8 from rfl, pk_mul, nI_add, ncl (n := 8 * j + i) (by omega), hW j i hj2 hij, wD_comm, tb_and _ (by omega) j (by omega), tb_xor _ (by omega) j (by omega), ncl (by omega), ncl (by omega), (hT _ hy).1, (hT _ hr).1]
    refine br_t (nI_lt hj2 (by omega)) ⟨vin (by omega), ?_⟩
    rintro _ rfl
    refine ⟨fun c => ih (j + 1) (by omega) (by omega) (by rw [ff_n (pmt_f c)] at h; exact h), fun c => ?_⟩
    have c' : (rest ^^^ 2 ^ i).testBit j = true := by
      cases q : (rest ^^^ 2 ^ i).testBit j
      · exact absurd q c
      · rfl
    rw [oI_n9' (fun v hv => wD_lt hk.2.2.1 hv)]
    refine ⟨fun d => ih (j + 1) (by omega) (by omega) (by rw [ff_n (pmt_n d)] at h; exact h), fun d => ⟨vin (by omega), vin (by omega), ?_⟩⟩
    obtain ⟨v, hv⟩ := Option.ne_none_iff_exists'.mp d
    have hlt := wD_lt hk.2.2.1 hv
    have hb := best_le hk.2.2.1 (rest ^^^ 2 ^ i ^^^ 2 ^ j)
    have hb2 := best_le hk.2.2.1 rest
    rw [hv, oI_some, nI_add, nI_eq (by omega) (by omega)]
    refine ⟨fun e => ?_, fun e => ?_⟩
    · rw [ff_y (by rw [pmt_s c' hv]; exact beq_iff_eq.mpr e)] at h; exact h
    · refine ih (j + 1) (by omega) (by omega) ?_
      rw [ff_n (by rw [pmt_s c' hv]; exact beq_eq_false_iff_ne.mpr e)] at h; exact h
theorem fmate_ok (hk : SOk S) (hC : RC S M) (hW : WtC S.2.2.1 M) (hT : TbC S.2.2.1 (2 ^ dn S.2.2.1) M) {rest i : Nat} (hr : rest < 2 ^ dn S.2.2.1) (hi : i < dn S.2.2.1) (h : Q (some (.int (oI (mate S.2.2.1 rest i)))) M) : C_X6_firstMate G (nI i) (nI rest) M Q := by
  have h8 := hk.2.2.1.1
  have hp := p2_257 h8
  have hx : rest ^^^ 2 ^ i < 2 ^ dn S.2.2.1 := Nat.xor_lt_two_pow hr (Nat.pow_lt_pow_right (by decide) hi)
  have hb := best_le hk.2.2.1 (rest ^^^ 2 ^ i)
  have hb2 := best_le hk.2.2.1 rest
  refine v_X6_firstMate ?_
  rw [tb_xor _ (by omega) i (by omega), nI_1]
  rintro _ rfl
  rw [ncl (by omega), ncl (by omega), (hT _ hx).1, (hT _ hr).1, nI_eq (by omega) (by omega)]
  refine ⟨vin (by omega), vin (by omega), fun c => ?_, fun c => ?_⟩
  · unfold mate at h; rw [if_pos c] at h; exact h
  · unfold mate at h; rw [if_neg c] at h
    exact fmate_loop hk hC hW hT hr hi _ _ (by omega) (by omega) h
def sR (S : St) (s : RSt) : St := (s, S.2)
theorem SOk.sR (h : SOk S) {s : RSt} (hs : ROk 6 40 s) : SOk (sR S s) := ⟨hs, h.2⟩
theorem sR_w {s : RSt} {r i : Nat} {v : Int32} : (rWrt s r i v).1 = s.1 := rfl
theorem c_wr (hk : SOk S) (hC : RC S M) {r n i : Nat} {v : Int32} (hr : r < 6) (hn : S.1.1 r = some n) (hi : i < n) (h : RC (sR S (rWrt S.1 r i v)) (upI M (45 + r) i v) → Q none (upI M (45 + r) i v)) : C_X9_write G 1 (nI r) (nI i) v M Q :=
  write_ok RPk.R hC.1 hk.1 hr hn hi (h (hC.sR hk (P := fun a _ => a = 45 + r) (Eqv.rf.upI rfl) (by omega) (hC.1.write RPk.R hr i v)))
theorem cpart_loop (hk0 : SOk S) {r : Nat} (hr : r < 6) : ∀ (k i rest : Nat) (s : RSt) (M : Mem), i + k = dn S.2.2.1 → rest < 2 ^ dn S.2.2.1 → ROk 6 40 s → s.1 r = some (dn S.2.2.1) → RC (sR S s) M → WtC S.2.2.1 M → TbC S.2.2.1 (2 ^ dn S.2.2.1) M →
    (∀ M', ROk 6 40 (prt S.2.2.1 r k i rest s) → RC (sR S (prt S.2.2.1 r k i rest s)) M' → TbC S.2.2.1 (2 ^ dn S.2.2.1) M' → EqC M M' → Q none M') → P_X6_partTo_46 G (nI r) (nI rest) (nI i) M Q := by
  have h8 := hk0.2.2.1.1
  have hp := p2_257 h8
  intro k
  induction k with
  | zero =>
    intro i rest s M hi hrest hs hn hC hW hT h
    have : i = dn S.2.2.1 := by omega
    subst this
    have hz : M.1 12 2 = nI (dn S.2.2.1) := hC.nz
    refine v_X6_partTo_46 ?_
    rw [hz]
    exact br_f (nI_nlt (Nat.le_refl _) (by omega)) (h M hs hC hT EqC.rf)
  | succ k ih =>
    intro i rest s M hi hrest hs hn hC hW hT h
    have hk : SOk (sR S s) := hk0.sR hs
    have hi2 : i < dn S.2.2.1 := by omega
    have hz : M.1 12 2 = nI (dn S.2.2.1) := hC.nz
    have hx : rest ^^^ 2 ^ i < 2 ^ dn S.2.2.1 := Nat.xor_lt_two_pow hrest (Nat.pow_lt_pow_right (by decide) hi2)
    refine v_X6_partTo_46 ?_
    rw [hz, nI_1 i, tb_and _ (by omega) i (by omega), tb_xor _ (by omega) i (by omega)]
    refine br_t (nI_lt hi2 (by omega)) ⟨fun c => ih (i + 1) rest s M (by omega) hrest hs hn hC hW hT (by rw [prt_f c] at h; exact h), fun c => ?_⟩
    have c' : rest.testBit i = true := by
      cases q : rest.testBit i
      · exact absurd q c
      · rfl
    refine fmate_ok (S := sR S s) hk hC hW hT hrest hi2 (RI.mk ?_)
    show ∀ y5 : Int32, _
    rintro _ rfl
    rw [oI_j (fun v hv => by have := (mate_in hv).2.1; have : dn (sR S s).2.2.1 ≤ 8 := h8; omega)]
    refine ⟨fun d => ih (i + 1) _ s M (by omega) hx hs hn hC hW hT (by rw [prt_n c' (show mate S.2.2.1 rest i = none from d)] at h; exact h), fun d => ?_⟩
    obtain ⟨j, hj⟩ := Option.ne_none_iff_exists'.mp d
    have hj' : mate S.2.2.1 rest i = some j := hj
    obtain ⟨j1, j2, j3⟩ := mate_in hj'
    have hy : rest ^^^ 2 ^ i ^^^ 2 ^ j < 2 ^ dn S.2.2.1 := Nat.xor_lt_two_pow hx (Nat.pow_lt_pow_right (by decide) j2)
    rw [hj, oI_some]
    rintro _ rfl
    rw [tb_xor _ (by omega) j (by omega)]
    refine c_wr (n := dn S.2.2.1) hk hC hr hn hi2 fun hC1 => RV.mk ?_
    have hs1 : ROk 6 40 (rWrt s r i (nI j)) := hs
    refine c_wr (n := dn S.2.2.1) (S := sR S (rWrt s r i (nI j))) (hk0.sR hs1) hC1 hr hn j2 fun hC2 => RV.mk ?_
    refine ih (i + 1) _ (rWrt (rWrt s r i (nI j)) r j (nI i)) _ (by omega) hy hs1 hn hC2 (fun a b ha hb => ?_) (fun m hm => ?_) fun M' g1 g2 g3 g4 => ?_
    · rw [upI_n _ _ (by omega), upI_n _ _ (by omega)]; exact hW a b ha hb
    · rw [upI_n _ _ (by omega), upI_n _ _ (by omega), upI_n _ _ (by omega), upI_n _ _ (by omega)]; exact hT m hm
    · rw [prt_s c' hj'] at h
      exact h M' g1 g2 g3 (((EqC.rf.upI (by omega)).upI (by omega)).tr g4)
theorem tb_b {m i : Nat} (h : ∀ k, k < i → m.testBit k = false) (hm : m < 2 ^ i) : m = 0 := by
  refine Nat.eq_of_testBit_eq fun k => ?_
  rw [Nat.zero_testBit]
  by_cases c : k < i
  · exact h k c
  · exact tb_hi hm (by omega)
theorem xor_bt {m i k : Nat} (h : k ≠ i) : (m ^^^ 2 ^ i).testBit k = m.testBit k := by rw [Nat.testBit_xor, Nat.testBit_two_pow]; simp [Ne.symm h]
theorem xor_bi {m i : Nat} (h : m.testBit i = true) : (m ^^^ 2 ^ i).testBit i = false := by rw [Nat.testBit_xor, Nat.testBit_two_pow, h]; simp
theorem m_wr {s : RSt} (hM : RM (sR S s) M) (hs : ROk 6 40 s) {r i : Nat} {v : Int32} (hr : r < 6) (hi : i < 40) : RM (sR S (rWrt s r i v)) (upI M 73 (40 * r + i) v) :=
  RM.sR (S := sR S s) hM (P := fun a _ => a = 73) (Eqv.rf.upI rfl) (by omega) (RowsM.wr40 hM.1 hs hr hi v)
/-- the inner loop's end: with a mate or with none -/
theorem mpart_end (hk0 : SOk S) {r : Nat} (hr : r < 6) {i rest : Nat} {s : RSt} {sum : Int32} (hi : i < dn S.2.2.1) (hb : rest.testBit i = true) (hrest : rest < 2 ^ dn S.2.2.1) (hs : ROk 6 40 s) (hM : RM (sR S s) M) (hT : TbM S.2.2.1 (2 ^ dn S.2.2.1) M) (o : Option Nat) (ho : ∀ j, o = some j → i < j ∧ j < dn S.2.2.1 ∧ (rest ^^^ 2 ^ i).testBit j = true)
    (h0 : o = none → P_X11_pairs_74 G (nI r) (nI (rest ^^^ 2 ^ i)) sum M Q) (h1 : ∀ j M', o = some j → i < j → j < dn S.2.2.1 → (rest ^^^ 2 ^ i).testBit j = true → RM (sR S (rWrt (rWrt s r i (nI j)) r j (nI i))) M' → TbM S.2.2.1 (2 ^ dn S.2.2.1) M' → EqM M M' → P_X11_pairs_74 G (nI r) (nI (rest ^^^ 2 ^ i ^^^ 2 ^ j)) sum M' Q) :
    ((oI o = (-9 : Int32) → P_X11_pairs_74 G (nI r) (nI (rest ^^^ 2 ^ i)) sum M Q) ∧ (¬ oI o = (-9 : Int32) → (vp_in ((40 * nI r) + nI i) 240 ∧ (∀ M4 : Mem, M4 = upI M 73 (((40 * nI r) + nI i).toNatClampNeg) (oI o) → (vp_in ((40 * nI r) + oI o) 240 ∧ (∀ M6 : Mem, M6 = upI M4 73 (((40 * nI r) + oI o).toNatClampNeg) (nI i) → (∀ y7 : Int32, y7 = (nI (rest ^^^ 2 ^ i) &&& ((1 <<< (oI o &&& 31)) ^^^ (-1 : Int32))) → P_X11_pairs_74 G (nI r) y7 sum M6 Q))))))) := by
  have h8 := hk0.2.2.1.1
  have hp := p2_257 h8
  have hx : rest ^^^ 2 ^ i < 2 ^ dn S.2.2.1 := Nat.xor_lt_two_pow hrest (Nat.pow_lt_pow_right (by decide) hi)
  rw [oI_j (fun v hv => by have := (ho v hv).2.1; omega)]
  refine ⟨h0, fun d => ?_⟩
  obtain ⟨j, hj⟩ := Option.ne_none_iff_exists'.mp d
  obtain ⟨j1, j2, j3⟩ := ho j hj
  rw [hj, oI_some, ix40, ix40, ncl (by omega), ncl (by omega)]
  refine ⟨vin (by omega), ?_⟩
  rintro M4 e4
  refine ⟨vin (by omega), ?_⟩
  rintro M6 e6
  rintro _ rfl
  rw [tb_del _ (by omega) j (by omega), if_pos j3]
  have hM4 : RM (sR S (rWrt s r i (nI j))) M4 := by rw [e4]; exact m_wr hM hs hr (by omega)
  refine h1 j M6 hj j1 j2 j3 (by rw [e6]; exact m_wr hM4 hs hr (by omega)) (fun m hm => ?_) (by rw [e6, e4]; exact (Eqv.rf.upI (by omega)).upI (by omega))
  rw [e6, upI_n _ _ (by omega), upI_n _ _ (by omega), e4, upI_n _ _ (by omega), upI_n _ _ (by omega)]
  exact hT m hm
theorem mpart_in (hk0 : SOk S) {r : Nat} (hr : r < 6) {i rest : Nat} {s : RSt} {sum : Int32} (hi : i < dn S.2.2.1) (hb : rest.testBit i = true) (hrest : rest < 2 ^ dn S.2.2.1) (hs : ROk 6 40 s) (hM : RM (sR S s) M) (hT : TbM S.2.2.1 (2 ^ dn S.2.2.1) M) (hne : ¬ best S.2.2.1 (rest ^^^ 2 ^ i) = best S.2.2.1 rest)
    (h0 : ff (pmt S.2.2.1 rest i) (dn S.2.2.1 - (i + 1)) (i + 1) = none → P_X11_pairs_74 G (nI r) (nI (rest ^^^ 2 ^ i)) sum M Q) (h1 : ∀ j M', ff (pmt S.2.2.1 rest i) (dn S.2.2.1 - (i + 1)) (i + 1) = some j → i < j → j < dn S.2.2.1 → (rest ^^^ 2 ^ i).testBit j = true → RM (sR S (rWrt (rWrt s r i (nI j)) r j (nI i))) M' → TbM S.2.2.1 (2 ^ dn S.2.2.1) M' → EqM M M' → P_X11_pairs_74 G (nI r) (nI (rest ^^^ 2 ^ i ^^^ 2 ^ j)) sum M' Q) :
    ∀ (t k : Nat), i + t + 1 + k = dn S.2.2.1 → P_X11_pairs_106 G (nI r) (nI rest) sum (nI i) (nI (rest ^^^ 2 ^ i)) (oI (ff (pmt S.2.2.1 rest i) k (i + t + 1))) (nI (i + t)) M Q := by
  have h8 := hk0.2.2.1.1
  have hp := p2_257 h8
  have hx : rest ^^^ 2 ^ i < 2 ^ dn S.2.2.1 := Nat.xor_lt_two_pow hrest (Nat.pow_lt_pow_right (by decide) hi)
  have hk : SOk (sR S s) := hk0.sR hs
  intro t
  induction t with
  | zero =>
    intro k hk1
    have e : dn S.2.2.1 - (i + 1) = k := by omega
    refine v_X11_pairs_106 (br_f (nI_nlt (by omega) (by omega)) ?_)
    refine mpart_end hk0 hr hi hb hrest hs hM hT (ff (pmt S.2.2.1 rest i) k (i + 0 + 1)) (fun j hj => ?_) (fun q => h0 (by rw [e]; exact q)) (fun j M' q => h1 j M' (by rw [e]; exact q))
    have := ff_in _ _ _ hj
    exact ⟨by omega, by omega, pmt_t this.2.2⟩
  | succ t ih =>
    intro k hk1
    have hj2 : i + (t + 1) < dn S.2.2.1 := by omega
    have hy : rest ^^^ 2 ^ i ^^^ 2 ^ (i + (t + 1)) < 2 ^ dn S.2.2.1 := Nat.xor_lt_two_pow hx (Nat.pow_lt_pow_right (by decide) hj2)
    have hb1 := best_le hk0.2.2.1 (rest ^^^ 2 ^ i)
    have hb2 := best_le hk0.2.2.1 rest
    have hb3 := best_le hk0.2.2.1 (rest ^^^ 2 ^ i ^^^ 2 ^ (i + (t + 1)))
    have ih1 := ih (k + 1) (by omega)
    rw [show i + t + 1 = i + (t + 1) by omega] at ih1
    refine v_X11_pairs_106 (br_t (nI_lt (by omega) (by omega)) ⟨vin (by omega), vin (by omega), ?_⟩)
    rw [ncl (n := rest ^^^ 2 ^ i) (by omega), ncl (n := rest) (by omega), (hT _ hx).1, (hT _ hrest).1, nI_eq (by omega) (by omega), tb_sh1 _ (by omega) _ (by omega), tb_del _ (by omega) _ (by omega), show nI (i + (t + 1)) + (-1 : Int32) = nI (i + t) from nI_m1 (i + t)]
    refine br_f hne ⟨fun c => ?_, fun c => ?_⟩
    · rw [if_pos c, ncl (by omega)]
      have hg1 : GlM M i (glD S.2.2.1 i) := hM.gl (S := sR S s) hi
      have hg2 : GlM M (i + (t + 1)) (glD S.2.2.1 (i + (t + 1))) := hM.gl (S := sR S s) hj2
      refine m_pairOf_ok (by omega) (by omega) (glD_ok hk0.2.2.1 hi) (glD_ok hk0.2.2.1 hj2) hg1 hg2 (RI.mk ?_)
      rw [← wD_in hi hj2, oI_n9' (fun v hv => wD_lt hk0.2.2.1 hv), (hT _ hy).1, (hT _ hrest).1]
      refine ⟨fun d => ?_, fun d => ⟨vin (by omega), vin (by omega), ?_⟩⟩
      · rw [ff_n (pmt_n d)] at ih1; exact ih1
      · obtain ⟨v, hv⟩ := Option.ne_none_iff_exists'.mp d
        have hlt := wD_lt hk0.2.2.1 hv
        rw [hv, oI_some, nI_add, nI_eq (by omega) (by omega)]
        refine ⟨fun e => ?_, fun e => ?_⟩
        · rw [ff_y (by rw [pmt_s c hv]; exact beq_iff_eq.mpr e)] at ih1; exact ih1
        · rw [ff_n (by rw [pmt_s c hv]; exact beq_eq_false_iff_ne.mpr e)] at ih1; exact ih1
    · have c' : (rest ^^^ 2 ^ i).testBit (i + (t + 1)) = false := by
        cases q : (rest ^^^ 2 ^ i).testBit (i + (t + 1))
        · rfl
        · exact absurd q c
      rw [ff_n (pmt_f c')] at ih1; exact ih1
theorem mpart_loop (hk0 : SOk S) {r : Nat} (hr : r < 6) {sum : Int32} : ∀ (k i rest : Nat) (s : RSt) (M : Mem), i + k = dn S.2.2.1 → rest < 2 ^ dn S.2.2.1 → (∀ b, b < i → rest.testBit b = false) → ROk 6 40 s → RM (sR S s) M → TbM S.2.2.1 (2 ^ dn S.2.2.1) M →
    (∀ M', ROk 6 40 (prt S.2.2.1 r k i rest s) → RM (sR S (prt S.2.2.1 r k i rest s)) M' → EqM M M' → Q (some (.int sum)) M') → P_X11_pairs_74 G (nI r) (nI rest) sum M Q := by
  have h8 := hk0.2.2.1.1
  have hp := p2_257 h8
  intro k
  induction k with
  | zero =>
    intro i rest s M hi hrest hb hs hM hT h
    have : i = dn S.2.2.1 := by omega
    subst this
    have : rest = 0 := tb_b hb hrest
    subst this
    exact v_X11_pairs_74 (br_t rfl (h M hs hM Eqv.rf))
  | succ k ih =>
    intro i rest s M hi hrest hb hs hM hT h
    have hi2 : i < dn S.2.2.1 := by omega
    have hx : rest ^^^ 2 ^ i < 2 ^ dn S.2.2.1 := Nat.xor_lt_two_pow hrest (Nat.pow_lt_pow_right (by decide) hi2)
    cases c : rest.testBit i with
    | false =>
      rw [prt_f c] at h
      refine ih (i + 1) rest s M (by omega) hrest (fun b hb2 => ?_) hs hM hT h
      by_cases e : b = i
      · rw [e]; exact c
      · exact hb b (by omega)
    | true =>
      have h0 : 0 < rest := by
        rcases Nat.eq_zero_or_pos rest with q | q
        · rw [q, Nat.zero_testBit] at c; cases c
        · exact q
      have hz : M.1 71 20 = nI (dn S.2.2.1) := hM.nz
      have lw : ∀ b, b < i + 1 → (rest ^^^ 2 ^ i).testBit b = false := fun b hb2 => by
        by_cases e : b = i
        · rw [e]; exact xor_bi c
        · rw [xor_bt e]; exact hb b (by omega)
      refine v_X11_pairs_74 (br_f (fun q => nI_ne0 h0 (by omega) q) (low_ok (by omega) h0 fun i' g1 g2 g3 => RI.mk ?_))
      have ei : i' = i := by
        rcases Nat.lt_trichotomy i' i with q | q | q
        · rw [hb i' q] at g2; cases g2
        · exact q
        · rw [g3 i q] at c; cases c
      subst ei
      rintro _ rfl
      rw [tb_del _ (by omega) _ (by omega), if_pos c, hz, show dn S.2.2.1 = i' + k + 1 by omega, nI_pred]
      have hb1 := best_le hk0.2.2.1 (rest ^^^ 2 ^ i')
      have hb2 := best_le hk0.2.2.1 rest
      by_cases e : best S.2.2.1 (rest ^^^ 2 ^ i') = best S.2.2.1 rest
      · have hm : mate S.2.2.1 rest i' = none := if_pos e
        rw [prt_n c hm] at h
        have fin : P_X11_pairs_74 G (nI r) (nI (rest ^^^ 2 ^ i')) sum M Q := ih (i' + 1) _ s M (by omega) hx lw hs hM hT h
        refine v_X11_pairs_106 ⟨fun _ => ⟨vin (by omega), vin (by omega), ?_⟩, fun _ => br_t rfl fin⟩
        rw [ncl (by omega), ncl (by omega), (hT _ hx).1, (hT _ hrest).1]
        exact br_t (by rw [e]) (br_t rfl fin)
      · have hmt : mate S.2.2.1 rest i' = ff (pmt S.2.2.1 rest i') (dn S.2.2.1 - (i' + 1)) (i' + 1) := if_neg e
        refine mpart_in hk0 hr hi2 c hrest hs hM hT e (fun q => ?_) (fun j M' q j1 j2 j3 g1 g2 g3 => ?_) k 0 (by omega)
        · rw [prt_n c (hmt.trans q)] at h
          exact ih (i' + 1) _ s M (by omega) hx lw hs hM hT h
        · rw [prt_s c (hmt.trans q)] at h
          have hy : rest ^^^ 2 ^ i' ^^^ 2 ^ j < 2 ^ dn S.2.2.1 := Nat.xor_lt_two_pow hx (Nat.pow_lt_pow_right (by decide) j2)
          refine ih (i' + 1) _ (rWrt (rWrt s r i' (nI j)) r j (nI i')) M' (by omega) hy (fun b hb3 => ?_) hs g1 g2 fun M2 k1 k2 k3 => h M2 k1 k2 (g3.tr k3)
          rw [xor_bt (by omega)]; exact lw b hb3
/-- NONE everywhere -/
def noneR (s : RSt) (r : Nat) : Nat → RSt
  | 0 => s
  | i + 1 => rWrt (noneR s r i) r i (-9)
theorem noneR_1 (s : RSt) (r : Nat) : ∀ i, (noneR s r i).1 = s.1
  | 0 => rfl
  | i + 1 => noneR_1 s r i
theorem cnone_loop (hk0 : SOk S) {r : Nat} (hr : r < 6) {s : RSt} (hs : ROk 6 40 s) (hn : s.1 r = some (dn S.2.2.1)) : ∀ (k i : Nat) (M : Mem), i + k = dn S.2.2.1 → RC (sR S (noneR s r i)) M → WtC S.2.2.1 M → TbC S.2.2.1 (2 ^ dn S.2.2.1) M →
    (∀ M', RC (sR S (noneR s r (dn S.2.2.1))) M' → WtC S.2.2.1 M' → TbC S.2.2.1 (2 ^ dn S.2.2.1) M' → EqC M M' → P_X6_partTo_46 G (nI r) (nI (sIn S.2.2.1 0)) 0 M' Q) → P_X6_partTo_12 G (nI r) (nI i) M Q := by
  have h8 := hk0.2.2.1.1
  intro k
  induction k with
  | zero =>
    intro i M hi hC hW hT h
    have : i = dn S.2.2.1 := by omega
    subst this
    have hz : M.1 12 2 = nI (dn S.2.2.1) := hC.nz
    refine v_X6_partTo_12 ?_
    rw [hz]
    exact br_f (nI_nlt (Nat.le_refl _) (by omega)) (set_ok (w := 0) hk0.2.2.1 hC.2.2.1 (by decide) (RI.mk (h M hC hW hT EqC.rf)))
  | succ k ih =>
    intro i M hi hC hW hT h
    have hz : M.1 12 2 = nI (dn S.2.2.1) := hC.nz
    have hs1 : ROk 6 40 (noneR s r i) := by intro a ha m hm; rw [noneR_1] at hm; exact hs a ha m hm
    refine v_X6_partTo_12 ?_
    rw [hz, nI_1 i]
    refine br_t (nI_lt (by omega) (by omega)) (c_wr (n := dn S.2.2.1) (S := sR S (noneR s r i)) (hk0.sR hs1) hC hr (by show (noneR s r i).1 r = _; rw [noneR_1]; exact hn) (by omega) fun hC1 => RV.mk ?_)
    refine ih (i + 1) _ (by omega) hC1 (fun a b ha hb => ?_) (fun m hm => ?_) fun M' g1 g2 g3 g4 => h M' g1 g2 g3 ((EqC.rf.upI (by omega)).tr g4)
    · rw [upI_n _ _ (by omega)]; exact hW a b ha hb
    · rw [upI_n _ _ (by omega), upI_n _ _ (by omega)]; exact hT m hm
theorem mnone_loop (hk0 : SOk S) {r : Nat} (hr : r < 6) {s : RSt} (hs : ROk 6 40 s) : ∀ (k i : Nat) (M : Mem), i + k = dn S.2.2.1 → RM (sR S (noneR s r i)) M → TbM S.2.2.1 (2 ^ dn S.2.2.1) M →
    (∀ M', RM (sR S (noneR s r (dn S.2.2.1))) M' → TbM S.2.2.1 (2 ^ dn S.2.2.1) M' → EqM M M' → P_X11_pairs_74 G (nI r) (nI (sIn S.2.2.1 0)) (nI (best S.2.2.1 (sIn S.2.2.1 0))) M' Q) → P_X11_pairs_34 G (nI r) (nI i) M Q := by
  have h8 := hk0.2.2.1.1
  have hp := p2_257 h8
  intro k
  induction k with
  | zero =>
    intro i M hi hM hT h
    have : i = dn S.2.2.1 := by omega
    subst this
    have hz : M.1 71 20 = nI (dn S.2.2.1) := hM.nz
    have hin := sIn_n S.2.2.1 0
    refine v_X11_pairs_34 ?_
    rw [hz]
    refine br_f (nI_nlt (Nat.le_refl _) (by omega)) (mset_ok (w := 0) hk0.2.2.1 hM.2.2.1 (by decide) (RI.mk ⟨vin (by omega), ?_⟩))
    rw [ncl (by omega), (hT _ hin).1]
    rintro _ rfl
    exact h M hM hT Eqv.rf
  | succ k ih =>
    intro i M hi hM hT h
    have hz : M.1 71 20 = nI (dn S.2.2.1) := hM.nz
    have hs1 : ROk 6 40 (noneR s r i) := by intro a ha m hm; rw [noneR_1] at hm; exact hs a ha m hm
    refine v_X11_pairs_34 ?_
    rw [hz, nI_1 i, ix40, ncl (by omega)]
    refine br_t (nI_lt (by omega) (by omega)) ⟨vin (by omega), ?_⟩
    rintro _ rfl
    refine ih (i + 1) _ (by omega) (m_wr hM hs1 hr (by omega)) (fun m hm => ?_) fun M' g1 g2 g3 => h M' g1 g2 ((Eqv.rf.upI (by omega)).tr g3)
    rw [upI_n _ _ (by omega), upI_n _ _ (by omega)]; exact hT m hm
/-- promise 23 -/
theorem law_pairs (hB : Bo M) (x : Int32) : C_X10_pairs G x M (RI fun r M1 => C_X11_pairs G x M1 (RI fun r2 M2 => r = r2 ∧ Bo M2)) := by
  obtain ⟨S, hk, hC, hM⟩ := id hB
  have h8 := hk.2.2.1.1
  have hp := p2_257 h8
  have hin := sIn_n S.2.2.1 0
  rcases ix3 x (n := 6) (by omega) with hx | ⟨r, hr, rfl⟩
  · exact v_X10_pairs (num_out RPk.R hx (RI.mk (br_t rfl (RI.mk (v_X11_pairs (m_row_n hx (RI.mk (br_t rfl (RI.mk ⟨rfl, hB⟩)))))))))
  refine v_X10_pairs (num_in RPk.R hr (RI.mk (br_f (by decide) ?_)))
  rw [hC.nz, dn0 h8]
  refine ⟨fun c => RI.mk (v_X11_pairs (m_row_y hr (RI.mk (br_f (by decide) ?_)))), fun c => ?_⟩
  · rw [hM.nz, dn0 h8]; exact br_t c (RI.mk ⟨rfl, hB⟩)
  refine weigh_ok hk.2.2.1 hC.2.2.1 fun M1 e1 w1 t1 => RV.mk ?_
  have hC1 := hC.wg hk e1
  have hs : ROk 6 40 (rBeg S.1 r (dn S.2.2.1) 0) := hk.1.beg (by omega) _
  refine v_X6_partTo ?_
  rw [hC1.nz]
  refine begin_ok RPk.R hC1.1 hr (by omega) fun M2 e2 hr2 => RV.mk ?_
  have hC2 : RC (sR S (rBeg S.1 r (dn S.2.2.1) 0)) M2 := hC1.sR hk e2 (by omega) hr2
  refine cnone_loop hk hr hs (fu_s _ _ _) (dn S.2.2.1) 0 M2 (by omega) hC2 (fun a b ha hb => by rw [e2.i (by omega)]; exact w1 a b ha hb) (fun m hm => by rw [e2.i (by omega), e2.i (by omega)]; exact t1 m hm) fun M3 hC3 w3 t3 e3 => ?_
  have hs1 : ROk 6 40 (noneR (rBeg S.1 r (dn S.2.2.1) 0) r (dn S.2.2.1)) := by intro a ha m hm; rw [noneR_1] at hm; exact hs a ha m hm
  refine cpart_loop hk hr (dn S.2.2.1) 0 _ _ M3 (by omega) hin hs1 (by rw [noneR_1]; exact fu_s _ _ _) hC3 w3 t3 fun M4 o4 hC4 t4 e4 => RV.mk ?_
  refine set_ok (w := 0) hk.2.2.1 hC4.2.2.1 (by decide) (RI.mk ⟨vin (by omega), ?_⟩)
  rw [ncl (by omega), (t4 _ hin).1]
  have hM4 : RM S M4 := hM.oth ((e1.mono (by omega)).tr ((e2.mono (by omega)).tr (e3.tr e4)))
  refine RI.mk (v_X11_pairs (m_row_y hr (RI.mk (br_f (by decide) ?_))))
  rw [hM4.nz, dn0 h8]
  refine br_f c (measure_ok hk.2.2.1 hM4.2.2.1 fun M5 e5 t5 => RV.mk ?_)
  have hM5 := hM4.wg e5
  rw [hM5.nz]
  refine clear_ok hM5.1 hk.1 hr (by omega) fun M6 e6 hr6 => RV.mk ?_
  have hM6 : RM (sR S (rBeg S.1 r (dn S.2.2.1) 0)) M6 := hM5.sR e6 (by omega) hr6
  refine mnone_loop hk hr hs (dn S.2.2.1) 0 M6 (by omega) hM6 (fun m hm => by rw [e6.i (by omega), e6.i (by omega)]; exact t5 m hm) fun M7 hM7 t7 e7 => ?_
  refine mpart_loop hk hr (dn S.2.2.1) 0 _ _ M7 (by omega) hin (fun b hb => absurd hb (Nat.not_lt_zero b)) hs1 hM7 t7 fun M8 o8 hM8 e8 => RI.mk ⟨rfl, ?_⟩
  exact Bo.mk (hk.sR o8) (hC4.oth (hk.sR o4) ((e5.mono (by omega)).tr ((e6.mono (by omega)).tr (e7.tr e8)))) hM8
end PAI
