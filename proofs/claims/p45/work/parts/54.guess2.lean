/-! which sort, hand, kind it can be -/
section GS2
variable {G : Glob} {M : Mem} {Q : Option Value → Mem → Prop} {S : St} {D : Dr} {i r n h : Nat} {f : Nat → Int32}
abbrev ag1 (D : Dr) (x : Gl) (f : Nat → Int32) (p : Nat) : Prop := oI (gw x (glD D (jn f p))) = f (2 * p + 1)
abbrev agA (D : Dr) (x : Gl) (f : Nat → Int32) (h : Nat) : Prop := ∀ q, q < h → ag1 D x f q
def agB (D : Dr) (x : Gl) (f : Nat → Int32) (h : Nat) : Bool := decide (agA D x f h)
theorem agB_t {D : Dr} {x : Gl} (a : agA D x f h) : agB D x f h = true := decide_eq_true a
theorem agB_f {D : Dr} {x : Gl} (a : ¬ agA D x f h) : agB D x f h = false := decide_eq_false a
theorem ag_loop (hk : SOk S) (hC : RC S M) (hr : r < 6) {h : Nat} (hn : S.1.1 r = some (2 * h)) (hw : wtA (dn S.2.2.1) i (S.1.2 r) h) {x : Gl} (hx : GlAt M 37 x) (hxo : GlOk x) (hq : Q (some (.int (bI (agB S.2.2.1 x (S.1.2 r) h)))) M) :
    ∀ (k p : Nat), p + k = h → agA S.2.2.1 x (S.1.2 r) p → P_X5_agrees_3 G (nI r) (nI (2 * p)) M Q := by
  have h8 := hk.2.2.1.1
  have h40 := hk.1 r hr _ hn
  intro k
  induction k with
  | zero =>
    intro p hp ha
    have : p = h := by omega
    subst this
    refine v_X5_agrees_3 (size_ok RPk.R hC.1 hr (RI.mk ?_))
    rw [hn, oSs, nI_1]
    rw [agB_t ha] at hq
    exact br_f (nI_nlt (by omega) (by omega)) hq
  | succ k ih =>
    intro p hp ha
    have ih1 := ih (p + 1) (by omega)
    obtain ⟨⟨j1, j2, j3⟩, _⟩ := hw p (by omega)
    refine v_X5_agrees_3 (size_ok RPk.R hC.1 hr (RI.mk ?_))
    rw [hn, oSs, nI_1, nI_2p]
    refine br_t (nI_lt (by omega) (by omega)) (read_ok RPk.R hC.1 hk.1 hr hn (i := 2 * p) (by omega) (RI.mk ?_))
    rw [j3]
    refine has_y hC.nz h8 j1 (RI.mk (br_f (by decide) ⟨vin (by omega), ?_⟩))
    rw [ncl (by omega)]
    refine goodWith_ok rfl (kd8 hk.2.2.1 j1) hx hxo (hC.gl j1) (glD_ok hk.2.2.1 j1) (RI.mk (read_ok RPk.R hC.1 hk.1 hr hn (i := 2 * p + 1) (by omega) (RI.mk ⟨fun c => ih1 (all_s ha c), fun c => ?_⟩)))
    rw [agB_f (fun q => c (q p (by omega)))] at hq
    exact hq
theorem ag_ok (hk : SOk S) (hC : RC S M) (hr : r < 6) {h : Nat} (hn : S.1.1 r = some (2 * h)) (hw : wtA (dn S.2.2.1) i (S.1.2 r) h) {x : Gl} (hx : GlAt M 37 x) (hxo : GlOk x) (hq : Q (some (.int (bI (agB S.2.2.1 x (S.1.2 r) h)))) M) : C_X5_agrees G (nI r) M Q :=
  v_X5_agrees (ag_loop hk hC hr hn hw hx hxo hq h 0 (by omega) (fun q hq => absurd hq (Nat.not_lt_zero q)))
def ssP (D : Dr) (i : Nat) (f : Nat → Int32) (h : Nat) (s : Nat) : Bool := agB D (gK (glD D i), s, gH (glD D i), gW (glD D i), gR (glD D i)) f h
theorem ss_loop (hk : SOk S) (M0 : Mem) (hC0 : RC S M0) (hi : i < dn S.2.2.1) (hr : r < 6) {h : Nat} (hn : S.1.1 r = some (2 * h)) (hw : wtA (dn S.2.2.1) i (S.1.2 r) h) (hq : ∀ M', Eqv (fun a _ => a = 37) M0 M' → Q (some (.int (nI (sb (ssP S.2.2.1 i (S.1.2 r) h) 10)))) M') :
    ∀ (k s : Nat) (M : Mem), s + k = 10 → Eqv (fun a _ => a = 37) M0 M → M.1 37 0 = nI (gK (glD S.2.2.1 i)) ∧ M.1 37 2 = nI (gH (glD S.2.2.1 i)) ∧ M.1 37 3 = nI (gW (glD S.2.2.1 i)) ∧ M.1 37 4 = nI (gR (glD S.2.2.1 i)) → P_X5_sortsLeft_19 G (nI r) (nI (sb (ssP S.2.2.1 i (S.1.2 r) h) s)) (nI s) M Q := by
  have ok := glD_ok hk.2.2.1 hi
  intro k
  induction k with
  | zero =>
    intro s M hs e hf
    have : s = 10 := by omega
    subst this
    exact v_X5_sortsLeft_19 (br_f (by decide) (hq M e))
  | succ k ih =>
    intro s M hs1 e hf
    have hs : s < 10 := by omega
    have ih1 := fun M2 => ih (s + 1) M2 (by omega)
    rw [show sb (ssP S.2.2.1 i (S.1.2 r) h) (s + 1) = sb (ssP S.2.2.1 i (S.1.2 r) h) s ||| (if ssP S.2.2.1 i (S.1.2 r) h s then 2 ^ s else 0) from rfl] at ih1
    refine v_X5_sortsLeft_19 (br_t (show nI s < nI 10 from nI_lt hs (by decide)) ?_)
    rintro _ rfl
    have e1 : Eqv (fun a _ => a = 37) M0 (upI M 37 1 (nI s)) := e.upI rfl
    have hC1 : RC S (upI M 37 1 (nI s)) := hC0.scr hk (e1.mono (by unfold scrC; omega))
    have gl : GlAt (upI M 37 1 (nI s)) 37 (gK (glD S.2.2.1 i), s, gH (glD S.2.2.1 i), gW (glD S.2.2.1 i), gR (glD S.2.2.1 i)) := ⟨by rw [upI_n _ _ (by omega)]; exact hf.1, upI_s _ _ _ _, by rw [upI_n _ _ (by omega)]; exact hf.2.1, by rw [upI_n _ _ (by omega)]; exact hf.2.2.1, by rw [upI_n _ _ (by omega)]; exact hf.2.2.2⟩
    have go : GlOk (gK (glD S.2.2.1 i), s, gH (glD S.2.2.1 i), gW (glD S.2.2.1 i), gR (glD S.2.2.1 i)) := ⟨ok.1, hs, ok.2.2⟩
    rw [sh1_tab s (by omega), nx_or, nI_1]
    refine ag_ok hk hC1 hr hn hw gl go (RI.mk ⟨fun c => ?_, fun c => ?_⟩)
    · have ih2 := ih1 _ e1 ⟨by rw [upI_n _ _ (by omega)]; exact hf.1, by rw [upI_n _ _ (by omega)]; exact hf.2.1, by rw [upI_n _ _ (by omega)]; exact hf.2.2.1, by rw [upI_n _ _ (by omega)]; exact hf.2.2.2⟩
      rw [show ssP S.2.2.1 i (S.1.2 r) h s = false from bI_0.mp c, if_neg (by decide), Nat.or_zero] at ih2
      exact ih2
    · rintro _ rfl
      have ih2 := ih1 _ e1 ⟨by rw [upI_n _ _ (by omega)]; exact hf.1, by rw [upI_n _ _ (by omega)]; exact hf.2.1, by rw [upI_n _ _ (by omega)]; exact hf.2.2.1, by rw [upI_n _ _ (by omega)]; exact hf.2.2.2⟩
      rw [show ssP S.2.2.1 i (S.1.2 r) h s = true from bI_n0.mp c, if_pos rfl] at ih2
      exact ih2
theorem ss_ok (hk : SOk S) (hC : RC S M) (hi : i < dn S.2.2.1) (hr : r < 6) {h : Nat} (hn : S.1.1 r = some (2 * h)) (hw : wtA (dn S.2.2.1) i (S.1.2 r) h) (hq : ∀ M', Eqv (fun a _ => a = 37) M M' → Q (some (.int (nI (sb (ssP S.2.2.1 i (S.1.2 r) h) 10)))) M') : C_X5_sortsLeft G (nI i) (nI r) M Q := by
  have h8 := hk.2.2.1.1
  refine v_X5_sortsLeft ⟨vin (by omega), ?_⟩
  rw [ncl (by omega)]
  refine like_ok rfl (kd8 hk.2.2.1 hi) (by omega) (hC.gl hi) (hC.wh hi) fun M1 e1 g1 _ => RV.mk ?_
  exact ss_loop hk M hC hi hr hn hw hq 10 0 M1 (by omega) e1 ⟨g1.1, g1.2.2.1, g1.2.2.2.1, g1.2.2.2.2⟩
def hhP (D : Dr) (i : Nat) (f : Nat → Int32) (h : Nat) (s : Nat) : Bool := agB D (gK (glD D i), gS (glD D i), s, gW (glD D i), gR (glD D i)) f h
theorem hh_loop (hk : SOk S) (M0 : Mem) (hC0 : RC S M0) (hi : i < dn S.2.2.1) (hr : r < 6) {h : Nat} (hn : S.1.1 r = some (2 * h)) (hw : wtA (dn S.2.2.1) i (S.1.2 r) h) (hq : ∀ M', Eqv (fun a _ => a = 37) M0 M' → Q (some (.int (nI (sb (hhP S.2.2.1 i (S.1.2 r) h) 2)))) M') :
    ∀ (k s : Nat) (M : Mem), s + k = 2 → Eqv (fun a _ => a = 37) M0 M → M.1 37 0 = nI (gK (glD S.2.2.1 i)) ∧ M.1 37 1 = nI (gS (glD S.2.2.1 i)) ∧ M.1 37 3 = nI (gW (glD S.2.2.1 i)) ∧ M.1 37 4 = nI (gR (glD S.2.2.1 i)) → P_X5_handsLeft_19 G (nI r) (nI (sb (hhP S.2.2.1 i (S.1.2 r) h) s)) (nI s) M Q := by
  have ok := glD_ok hk.2.2.1 hi
  intro k
  induction k with
  | zero =>
    intro s M hs e hf
    have : s = 2 := by omega
    subst this
    exact v_X5_handsLeft_19 (br_f (by decide) (hq M e))
  | succ k ih =>
    intro s M hs1 e hf
    have hs : s < 2 := by omega
    have ih1 := fun M2 => ih (s + 1) M2 (by omega)
    rw [show sb (hhP S.2.2.1 i (S.1.2 r) h) (s + 1) = sb (hhP S.2.2.1 i (S.1.2 r) h) s ||| (if hhP S.2.2.1 i (S.1.2 r) h s then 2 ^ s else 0) from rfl] at ih1
    refine v_X5_handsLeft_19 (br_t (show nI s < nI 2 from nI_lt hs (by decide)) ?_)
    rintro _ rfl
    have e1 : Eqv (fun a _ => a = 37) M0 (upI M 37 2 (nI s)) := e.upI rfl
    have hC1 : RC S (upI M 37 2 (nI s)) := hC0.scr hk (e1.mono (by unfold scrC; omega))
    have gl : GlAt (upI M 37 2 (nI s)) 37 (gK (glD S.2.2.1 i), gS (glD S.2.2.1 i), s, gW (glD S.2.2.1 i), gR (glD S.2.2.1 i)) := ⟨by rw [upI_n _ _ (by omega)]; exact hf.1, by rw [upI_n _ _ (by omega)]; exact hf.2.1, upI_s _ _ _ _, by rw [upI_n _ _ (by omega)]; exact hf.2.2.1, by rw [upI_n _ _ (by omega)]; exact hf.2.2.2⟩
    have go : GlOk (gK (glD S.2.2.1 i), gS (glD S.2.2.1 i), s, gW (glD S.2.2.1 i), gR (glD S.2.2.1 i)) := ⟨ok.1, ok.2.1, hs, ok.2.2.2⟩
    rw [sh1_tab s (by omega), nx_or, nI_1]
    refine ag_ok hk hC1 hr hn hw gl go (RI.mk ⟨fun c => ?_, fun c => ?_⟩)
    · have ih2 := ih1 _ e1 ⟨by rw [upI_n _ _ (by omega)]; exact hf.1, by rw [upI_n _ _ (by omega)]; exact hf.2.1, by rw [upI_n _ _ (by omega)]; exact hf.2.2.1, by rw [upI_n _ _ (by omega)]; exact hf.2.2.2⟩
      rw [show hhP S.2.2.1 i (S.1.2 r) h s = false from bI_0.mp c, if_neg (by decide), Nat.or_zero] at ih2
      exact ih2
    · rintro _ rfl
      have ih2 := ih1 _ e1 ⟨by rw [upI_n _ _ (by omega)]; exact hf.1, by rw [upI_n _ _ (by omega)]; exact hf.2.1, by rw [upI_n _ _ (by omega)]; exact hf.2.2.1, by rw [upI_n _ _ (by omega)]; exact hf.2.2.2⟩
      rw [show hhP S.2.2.1 i (S.1.2 r) h s = true from bI_n0.mp c, if_pos rfl] at ih2
      exact ih2
theorem hh_ok (hk : SOk S) (hC : RC S M) (hi : i < dn S.2.2.1) (hr : r < 6) {h : Nat} (hn : S.1.1 r = some (2 * h)) (hw : wtA (dn S.2.2.1) i (S.1.2 r) h) (hq : ∀ M', Eqv (fun a _ => a = 37) M M' → Q (some (.int (nI (sb (hhP S.2.2.1 i (S.1.2 r) h) 2)))) M') : C_X5_handsLeft G (nI i) (nI r) M Q := by
  have h8 := hk.2.2.1.1
  refine v_X5_handsLeft ⟨vin (by omega), ?_⟩
  rw [ncl (by omega)]
  refine like_ok rfl (kd8 hk.2.2.1 hi) (by omega) (hC.gl hi) (hC.wh hi) fun M1 e1 g1 _ => RV.mk ?_
  exact hh_loop hk M hC hi hr hn hw hq 2 0 M1 (by omega) e1 ⟨g1.1, g1.2.1, g1.2.2.2.1, g1.2.2.2.2⟩
def kkP (D : Dr) (i : Nat) (f : Nat → Int32) (h : Nat) (s : Nat) : Bool := agB D (s, gS (glD D i), gH (glD D i), gW (glD D i), gR (glD D i)) f h
theorem kk_loop (hk : SOk S) (M0 : Mem) (hC0 : RC S M0) (hi : i < dn S.2.2.1) (hr : r < 6) {h : Nat} (hn : S.1.1 r = some (2 * h)) (hw : wtA (dn S.2.2.1) i (S.1.2 r) h) (hq : ∀ M', Eqv (fun a _ => a = 37) M0 M' → Q (some (.int (nI (sb (kkP S.2.2.1 i (S.1.2 r) h) 6)))) M') :
    ∀ (k s : Nat) (M : Mem), s + k = 6 → Eqv (fun a _ => a = 37) M0 M → M.1 37 1 = nI (gS (glD S.2.2.1 i)) ∧ M.1 37 2 = nI (gH (glD S.2.2.1 i)) ∧ M.1 37 3 = nI (gW (glD S.2.2.1 i)) ∧ M.1 37 4 = nI (gR (glD S.2.2.1 i)) → P_X5_kindsLeft_19 G (nI r) (nI (sb (kkP S.2.2.1 i (S.1.2 r) h) s)) (nI s) M Q := by
  have ok := glD_ok hk.2.2.1 hi
  intro k
  induction k with
  | zero =>
    intro s M hs e hf
    have : s = 6 := by omega
    subst this
    exact v_X5_kindsLeft_19 (br_f (by decide) (hq M e))
  | succ k ih =>
    intro s M hs1 e hf
    have hs : s < 6 := by omega
    have ih1 := fun M2 => ih (s + 1) M2 (by omega)
    rw [show sb (kkP S.2.2.1 i (S.1.2 r) h) (s + 1) = sb (kkP S.2.2.1 i (S.1.2 r) h) s ||| (if kkP S.2.2.1 i (S.1.2 r) h s then 2 ^ s else 0) from rfl] at ih1
    refine v_X5_kindsLeft_19 (br_t (show nI s < nI 6 from nI_lt hs (by decide)) ?_)
    rintro _ rfl
    have e1 : Eqv (fun a _ => a = 37) M0 (upI M 37 0 (nI s)) := e.upI rfl
    have hC1 : RC S (upI M 37 0 (nI s)) := hC0.scr hk (e1.mono (by unfold scrC; omega))
    have gl : GlAt (upI M 37 0 (nI s)) 37 (s, gS (glD S.2.2.1 i), gH (glD S.2.2.1 i), gW (glD S.2.2.1 i), gR (glD S.2.2.1 i)) := ⟨upI_s _ _ _ _, by rw [upI_n _ _ (by omega)]; exact hf.1, by rw [upI_n _ _ (by omega)]; exact hf.2.1, by rw [upI_n _ _ (by omega)]; exact hf.2.2.1, by rw [upI_n _ _ (by omega)]; exact hf.2.2.2⟩
    have go : GlOk (s, gS (glD S.2.2.1 i), gH (glD S.2.2.1 i), gW (glD S.2.2.1 i), gR (glD S.2.2.1 i)) := ⟨hs, ok.2⟩
    rw [sh1_tab s (by omega), nx_or, nI_1]
    refine ag_ok hk hC1 hr hn hw gl go (RI.mk ⟨fun c => ?_, fun c => ?_⟩)
    · have ih2 := ih1 _ e1 ⟨by rw [upI_n _ _ (by omega)]; exact hf.1, by rw [upI_n _ _ (by omega)]; exact hf.2.1, by rw [upI_n _ _ (by omega)]; exact hf.2.2.1, by rw [upI_n _ _ (by omega)]; exact hf.2.2.2⟩
      rw [show kkP S.2.2.1 i (S.1.2 r) h s = false from bI_0.mp c, if_neg (by decide), Nat.or_zero] at ih2
      exact ih2
    · rintro _ rfl
      have ih2 := ih1 _ e1 ⟨by rw [upI_n _ _ (by omega)]; exact hf.1, by rw [upI_n _ _ (by omega)]; exact hf.2.1, by rw [upI_n _ _ (by omega)]; exact hf.2.2.1, by rw [upI_n _ _ (by omega)]; exact hf.2.2.2⟩
      rw [show kkP S.2.2.1 i (S.1.2 r) h s = true from bI_n0.mp c, if_pos rfl] at ih2
      exact ih2
theorem kk_ok (hk : SOk S) (hC : RC S M) (hi : i < dn S.2.2.1) (hr : r < 6) {h : Nat} (hn : S.1.1 r = some (2 * h)) (hw : wtA (dn S.2.2.1) i (S.1.2 r) h) (hq : ∀ M', Eqv (fun a _ => a = 37) M M' → Q (some (.int (nI (sb (kkP S.2.2.1 i (S.1.2 r) h) 6)))) M') : C_X5_kindsLeft G (nI i) (nI r) M Q := by
  have h8 := hk.2.2.1.1
  refine v_X5_kindsLeft ⟨vin (by omega), ?_⟩
  rw [ncl (by omega)]
  refine like_ok rfl (kd8 hk.2.2.1 hi) (by omega) (hC.gl hi) (hC.wh hi) fun M1 e1 g1 _ => RV.mk ?_
  exact kk_loop hk M hC hi hr hn hw hq 6 0 M1 (by omega) e1 ⟨g1.2.1, g1.2.2.1, g1.2.2.2.1, g1.2.2.2.2⟩
end GS2
