/-! what is refused by a number that is far off: BAD, and all as it was -/
section BAD
variable {G : Glob} {M : Mem} {Q : Option Value → Mem → Prop} {S : St} {x : Int32}
def Far (x : Int32) : Prop := x < 0 ∨ nI 1000 ≤ x
theorem Far.to (hf : Far x) {n : Nat} (hn : n ≤ 1000) : x < 0 ∨ nI n ≤ x := hf.imp id fun h => Int32.le_trans (nI_le hn (by omega)) h
theorem Far.gt (hf : Far x) {n : Nat} (hn : n < 1000) : x < 0 ∨ nI n < x := (hf.to (n := n + 1) hn).imp id fun q => (nlt_le (by omega)).mpr q
theorem b_row (hf : Far x) {y : Int32} (h : Q (some (.int (-1))) M) : C_X10_row G x y M Q := v_X10_row (num_out RPk.R (hf.to (by decide)) (RI.mk (br_t rfl h)))
theorem b_lay (hf : Far x) {y z : Int32} (h : Q (some (.int (-1))) M) : C_X10_lay G x y z M Q := v_X10_lay (c_refPl_n (hf.to (by decide)) (RI.mk (br_f (by decide) h)))
theorem b_at (hf : Far x) {y : Int32} (h : Q (some (.int (-1))) M) : C_X10_at G x y M Q := v_X10_at (c_refPl_n (hf.to (by decide)) (RI.mk (br_f (by decide) h)))
theorem b_tear (hf : Far x) (h : Q (some (.int (-1))) M) : C_X10_tear G x M Q := v_X10_tear (c_refRow_n (hf.to (by decide)) (RI.mk (br_f (by decide) h)))
theorem b_copy (hf : Far x) {y j n : Int32} (h : Q (some (.int (-1))) M) : C_X10_copy G (nI 0) y x j n M Q := v_X10_copy (num_in RPk.R (by decide) (RI.mk (br_f (by decide) (num_out RPk.R (hf.to (by decide)) (RI.mk (br_t rfl h))))))
theorem b_mean (hf : Far x) (h : Q (some (.int (-1))) M) : C_X10_mean G x M Q := v_X10_mean (c_refRow_n (hf.to (by decide)) (RI.mk (br_f (by decide) h)))
theorem b_text (hf : Far x) {y : Int32} (h : Q (some (.int (-1))) M) : C_X10_text G x y M Q := v_X10_text (num_out RPk.T (hf.to (by decide)) (RI.mk (br_t rfl h)))
theorem b_put (hf : Far x) {y z : Int32} (h : Q (some (.int (-1))) M) : C_X10_put G x y z M Q := v_X10_put (c_refTxt_n (hf.to (by decide)) (RI.mk (br_f (by decide) h)))
theorem b_fault (hf : Far x) (h : Q (some (.int (-1))) M) : C_X10_fault G x M Q := v_X10_fault (c_refTxt_n (hf.to (by decide)) (RI.mk (br_f (by decide) h)))
theorem b_drawer (hf : Far x) (h : Q (some (.int (-1))) M) : C_X10_drawer G x M Q := v_X10_drawer (c_refTxt_n (hf.to (by decide)) (RI.mk (br_f (by decide) h)))
theorem Far.has (hk : SOk S) (hC : RC S M) (hf : Far x) (h : Q (some (.int 0)) M) : C_X3_has G x M Q := has_n hC.nz (hf.to (by have := hk.2.2.1.1; omega)) h
/-- an object's number, or none: has() tells it apart -/
theorem has_or (hk : SOk S) (hC : RC S M) (h0 : Q (some (.int 0)) M) (h1 : Q (some (.int 1)) M) : C_X3_has G (nI 0) M Q := by
  have h8 := hk.2.2.1.1
  rcases Nat.eq_zero_or_pos (dn S.2.2.1) with c | c
  · exact has_n hC.nz (Or.inr (by rw [c]; exact Int32.le_refl _)) h0
  · exact has_y hC.nz h8 c h1
theorem b_glove (hk : SOk S) (hC : RC S M) (hf : Far x) {y : Int32} (h : Q (some (.int (-1))) M) : C_X10_glove G x y M Q := v_X10_glove (hf.has hk hC (RI.mk (br_t rfl h)))
theorem b_mark (hk : SOk S) (hC : RC S M) (hf : Far x) {y : Int32} (h : Q (some (.int (-1))) M) : C_X10_mark G x y M Q := v_X10_mark (hf.has hk hC (RI.mk (br_t rfl h)))
theorem b_pair (hk : SOk S) (hC : RC S M) (hf : Far x) {y : Int32} (h : Q (some (.int (-1))) M) : C_X10_pair G x y M Q := v_X10_pair (hf.has hk hC (RI.mk (br_t rfl h)))
theorem b_wear (hk : SOk S) (hC : RC S M) (hf : Far x) (h : Q (some (.int (-1))) M) : C_X10_wear G (nI 0) x M Q := v_X10_wear (has_or hk hC (RI.mk (br_t rfl h)) (RI.mk (br_f (by decide) (hf.has hk hC (RI.mk (br_t rfl h))))))
theorem b_lose (hk : SOk S) (hC : RC S M) (hf : Far x) (h : Q (some (.int (-1))) M) : C_X10_lose G x M Q := v_X10_lose (hf.has hk hC (RI.mk (br_t rfl h)))
theorem b_back (hk : SOk S) (hC : RC S M) (hf : Far x) (h : Q (some (.int (-1))) M) : C_X10_back G x M Q := v_X10_back (hf.has hk hC (RI.mk (br_t rfl h)))
theorem b_out (hk : SOk S) (hC : RC S M) (hf : Far x) (h : Q (some (.int (-1))) M) : C_X10_out G x M Q := v_X10_out (hf.has hk hC (RI.mk (br_t rfl h)))
theorem b_undo (hk : SOk S) (hC : RC S M) (hf : Far x) (h : Q (some (.int (-1))) M) : C_X10_undo G x M Q := c_undoN hk hC (hf.gt (by have := hk.2.2.1.2.2.2.1; omega)) h
theorem b_keep (hf : Far x) (h : Q (some (.int (-1))) M) : C_X10_keep G x M Q := c_keepN (hf.to (by decide)) h
theorem b_on (hf : Far x) (h : Q (some (.int (-1))) M) : C_X10_on G x M Q := c_onN (hf.to (by decide)) h
theorem Far.set (hk : SOk S) (hC : RC S M) (hf : Far x) (h : Q (some (.int 0)) M) : C_X3_isSet G x M Q := by
  have h8 := hk.2.2.1.1
  have hp := p2_257 h8
  exact isSet_n hC.nz h8 (hf.to (by omega)) h
theorem b_good (hk : SOk S) (hC : RC S M) (hf : Far x) (h : Q (some (.int (-1))) M) : C_X10_good G x M Q := v_X10_good (hf.set hk hC (RI.mk (br_t rfl h)))
theorem b_pairs (hf : Far x) (h : Q (some (.int (-1))) M) : C_X10_pairs G x M Q := v_X10_pairs (num_out RPk.R (hf.to (by decide)) (RI.mk (br_t rfl h)))
theorem Far.br (hf : Far x) {n : Nat} (hn : n < 1000) {A : Prop} {B : Prop} (a : A) : (x < 0 → A) ∧ (¬ x < 0 → ((nI n < x → A) ∧ (¬ nI n < x → B))) := ⟨fun _ => a, fun c => br_t ((hf.gt hn).resolve_left c) a⟩
theorem b_days (hf : Far x) {y : Int32} (h : Q (some (.int (-1))) M) : C_X10_days G x y M Q := v_X10_days (hf.br (n := 3) (by decide) h)
theorem b_join (hk : SOk S) (hC : RC S M) (hf : Far x) (h : Q (some (.int (-1))) M) : C_X10_join G (nI 0) x M Q := v_X10_join (isSet_y hC.nz hk.2.2.1.1 (p2_pos _) (RI.mk (br_f (by decide) (hf.set hk hC (RI.mk (br_t rfl h))))))
theorem Far.gs (hk : SOk S) (hC : RC S M) (hf : Far x) {y : Int32} (h : Q (some (.int (-1))) M) : C_X10_refusedGuess G x y M Q := v_X10_refusedGuess (hf.has hk hC (RI.mk (br_t rfl h)))
theorem Far.gs2 (hk : SOk S) (hC : RC S M) (hf : Far x) (h : Q (some (.int (-1))) M) : C_X10_refusedGuess G (nI 0) x M Q := v_X10_refusedGuess (has_or hk hC (RI.mk (br_t rfl h)) (RI.mk (br_f (by decide) (c_refRow_n (hf.to (by decide)) (RI.mk (br_f (by decide) h))))))
theorem b_sorts (hk : SOk S) (hC : RC S M) (hf : Far x) {y : Int32} (h : Q (some (.int (-1))) M) : C_X10_sorts G x y M Q := v_X10_sorts (hf.gs hk hC (RI.mk (br_f (by decide) h)))
theorem b_hands (hk : SOk S) (hC : RC S M) (hf : Far x) (h : Q (some (.int (-1))) M) : C_X10_hands G (nI 0) x M Q := v_X10_hands (hf.gs2 hk hC (RI.mk (br_f (by decide) h)))
theorem b_kinds (hk : SOk S) (hC : RC S M) (hf : Far x) {y : Int32} (h : Q (some (.int (-1))) M) : C_X10_kinds G x y M Q := v_X10_kinds (hf.gs hk hC (RI.mk (br_f (by decide) h)))
theorem b_test (hk : SOk S) (hC : RC S M) (hf : Far x) (h : Q (some (.int (-1))) M) : C_X10_test G (nI 0) x M Q := v_X10_test (hf.gs2 hk hC (RI.mk (br_f (by decide) h)))
theorem b_duel (hf : Far x) (h : Q (some (.int (-1))) M) : C_X10_duel G x M Q := v_X10_duel (hf.br (n := 6) (by decide) h)
theorem b_odds (hf : Far x) {y : Int32} (h : Q (some (.int (-1))) M) : C_X10_odds G (nI 0) x y M Q := v_X10_odds (br_f (by decide) (br_f (by decide) (ch_n (hf.to (by decide)) (RI.mk (br_t rfl h)))))
theorem b_mid (hf : Far x) (h : Q (some (.int (-1))) M) : C_X10_mid G (nI 0) x M Q := v_X10_mid (ch_y (by decide) (RI.mk (br_f (by decide) (ch_n (hf.to (by decide)) (RI.mk (br_t rfl h))))))
theorem Far.br1 (hf : Far x) {n : Nat} (hn : n < 1000) {A : Prop} {B : Prop} (a : A) : (x < 1 → A) ∧ (¬ x < 1 → ((nI n < x → A) ∧ (¬ nI n < x → B))) := ⟨fun _ => a, fun c => br_t ((hf.gt hn).resolve_left fun q => c (Int32.lt_trans q (by decide))) a⟩
theorem b_lots (hf : Far x) {y : Int32} (h : Q (some (.int (-1))) M) : C_X10_lots G x y M Q := v_X10_lots (hf.br1 (n := 20) (by decide) h)
theorem b_count (hf : Far x) (h : Q (some (.int (-1))) M) : C_X10_count G x M Q := c_cnt_n (fun ⟨j, hj, e⟩ => ix_no (n := 11) (by decide) (hf.to (by decide)) hj e) h
theorem b_findings (hf : Far x) (h : Q (some (.int (-1))) M) : C_X10_findings G x M Q := v_X10_findings (hf.br1 (n := 5) (by decide) h)
theorem ref18_ok (hk : SOk S) (hC : RC S M) (hf : Far x) (h : Q (some (.int 1)) M) : P_L_refused_18 G x M Q := by
  refine v_L_refused_18 ?_
  refine b_row hf (RI.mk (br_t rfl ?_))
  refine b_lay hf (RI.mk (br_t rfl ?_))
  refine b_at hf (RI.mk (br_t rfl ?_))
  refine b_tear hf (RI.mk (br_t rfl ?_))
  refine b_copy hf (RI.mk (br_t rfl ?_))
  refine b_mean hf (RI.mk (br_t rfl ?_))
  refine b_text hf (RI.mk (br_t rfl ?_))
  refine b_put hf (RI.mk (br_t rfl ?_))
  refine b_fault hf (RI.mk (br_t rfl ?_))
  refine b_drawer hf (RI.mk (br_t rfl ?_))
  refine b_glove hk hC hf (RI.mk (br_t rfl ?_))
  refine b_mark hk hC hf (RI.mk (br_t rfl ?_))
  refine b_pair hk hC hf (RI.mk (br_t rfl ?_))
  refine b_wear hk hC hf (RI.mk (br_t rfl ?_))
  refine b_lose hk hC hf (RI.mk (br_t rfl ?_))
  refine b_back hk hC hf (RI.mk (br_t rfl ?_))
  refine b_out hk hC hf (RI.mk (br_t rfl ?_))
  refine b_undo hk hC hf (RI.mk (br_t rfl ?_))
  refine b_keep hf (RI.mk (br_t rfl ?_))
  refine b_on hf (RI.mk (br_t rfl ?_))
  refine b_good hk hC hf (RI.mk (br_t rfl ?_))
  refine b_pairs hf (RI.mk (br_t rfl ?_))
  refine b_days hf (RI.mk (br_t rfl ?_))
  refine b_join hk hC hf (RI.mk (br_t rfl ?_))
  refine b_sorts hk hC hf (RI.mk (br_t rfl ?_))
  refine b_hands hk hC hf (RI.mk (br_t rfl ?_))
  refine b_kinds hk hC hf (RI.mk (br_t rfl ?_))
  refine b_test hk hC hf (RI.mk (br_t rfl ?_))
  refine b_duel hf (RI.mk (br_t rfl ?_))
  refine b_odds hf (RI.mk (br_t rfl ?_))
  refine b_mid hf (RI.mk (br_t rfl ?_))
  refine b_lots hf (RI.mk (br_t rfl ?_))
  refine b_count hf (RI.mk (br_t rfl ?_))
  exact b_findings hf (RI.mk (br_t rfl h))
theorem shr6 (z : Int32) : -33554432 ≤ (z >>> (6 &&& 31)).toInt ∧ (z >>> (6 &&& 31)).toInt < 33554432 := by
  have h1 := Int32.le_toInt z
  have h2 := Int32.toInt_lt z
  rw [pk_shr z _ 6 (by decide), Int.shiftRight_eq_div_pow]
  omega
theorem ref_ok (hk : SOk S) (hC : RC S M) (z : Int32) (h : Q (some (.int 1)) M) : C_L_refused G (z >>> (6 &&& 31)) M Q := by
  obtain ⟨h1, h2⟩ := shr6 z
  refine v_L_refused ⟨fun c => ref18_ok hk hC (Or.inl ?_) h, fun c => ref18_ok hk hC (Or.inr ?_) h⟩
  · have e : (999 : Int32).toInt = 999 := by decide
    have e0 : (0 : Int32).toInt = 0 := by decide
    rw [Int32.lt_iff_toInt_lt] at c ⊢
    rw [sub_toInt (by omega) (by omega)]
    omega
  · obtain ⟨j, hj, e⟩ := nI_of c
    rw [e, nI_toInt hj] at h2
    rw [e, show (1000 : Int32) = nI 1000 from rfl, nI_add]
    exact nI_le (by omega) (by omega)
end BAD
