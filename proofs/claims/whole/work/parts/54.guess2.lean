/-! which sort, hand, kind it can be -/
section GS2
variable {G : Glob} {M : Mem} {Q : Option Value → Mem → Prop} {S : St} {D : Dr} {i r n h : Nat} {f : Nat → Int32}
abbrev ag1 (D : Dr) (x : Gl) (f : Nat → Int32) (p : Nat) : Prop := oI (gw x (glD D (jn f p))) = f (2 * p + 1)
abbrev agA (D : Dr) (x : Gl) (f : Nat → Int32) (h : Nat) : Prop := ∀ q, q < h → ag1 D x f q
def agB (D : Dr) (x : Gl) (f : Nat → Int32) (h : Nat) : Bool := decide (agA D x f h)
theorem agB_t {D : Dr} {x : Gl} (a : agA D x f h) : agB D x f h = true := decide_eq_true a
theorem agB_f {D : Dr} {x : Gl} (a : ¬ agA D x f h) : agB D x f h = false := decide_eq_false a
theorem ag_loop (hk : SOk S) (hC : RC S M) (hr : r < 6) {h : Nat} (hn : S.1.1 r = some (2 * h)) (hw : wtA (dn S.2.2.1) i (S.1.2 r) h) {x : Gl} (hx : GlAt M 37 x) (hxo : GlOk x) (hq : Q (some (.int (bI (agB S.2.2.1 x (S.1.2 r) h)))) M) :
    ∀ (k p : Nat), p + k = h → agA S.2.2.1 x (S.1.2 r) p → P_X5_agrees_3 G (nI r) (nI (2 * p)) M Q := by
  have h8 := hk.2.2.1.1
  have h40 := hk.1 r hr _ hn
  intro k
  induction k with
  | zero =>
    intro p hp ha
    have : p = h := by omega
    subst this
    refine v_X5_agrees_3 (size_ok RPk.R hC.1 hr (RI.mk ?_))
    rw [hn, oSs, nI_1]
    rw [agB_t ha] at hq
    exact br_f (nI_nlt (by omega) (by omega)) hq
  | succ k ih =>
    intro p hp ha
    have ih1 := ih (p + 1) (by omega)
    obtain ⟨⟨j1, j2, j3⟩, _⟩ := hw p (by omega)
    refine v_X5_agrees_3 (size_ok RPk.R hC.1 hr (RI.mk ?_))
    rw [hn, oSs, nI_1, nI_2p]
    refine br_t (nI_lt (by omega) (by omega)) (read_ok RPk.R hC.1 hk.1 hr hn (i := 2 * p) (by omega) (RI.mk ?_))
    rw [j3]
    refine has_y hC.nz h8 j1 (RI.mk (br_f (by decide) ⟨vin (by omega), ?_⟩))
    rw [ncl (by omega)]
    refine goodWith_ok rfl (kd8 hk.2.2.1 j1) hx hxo (hC.gl j1) (glD_ok hk.2.2.1 j1) (RI.mk (read_ok RPk.R hC.1 hk.1 hr hn (i := 2 * p + 1) (by omega) (RI.mk ⟨fun c => ih1 (all_s ha c), fun c => ?_⟩)))
    rw [agB_f (fun q => c (q p (by omega)))] at hq
    exact hq
theorem ag_ok (hk : SOk S) (hC : RC S M) (hr : r < 6) {h : Nat} (hn : S.1.1 r = some (2 * h)) (hw : wtA (dn S.2.2.1) i (S.1.2 r) h) {x : Gl} (hx : GlAt M 37 x) (hxo : GlOk x) (hq : Q (some (.int (bI (agB S.2.2.1 x (S.1.2 r) h)))) M) : C_X5_agrees G (nI r) M Q :=
  v_X5_agrees (ag_loop hk hC hr hn hw hx hxo hq h 0 (by omega) (fun q hq => absurd hq (Nat.not_lt_zero q)))
theorem so_loop0 (hk : SOk S) (hM : RM S M) (hr : r < 6) {h : Nat} (hn : S.1.1 r = some (2 * h)) {k0 s0 d0 : Int32} (hq : Q (some (.int 0)) M) :
    ∀ (k p : Nat), p + k = h → P_X11_isSo_6 G (nI i) (nI r) k0 s0 d0 0 (nI (2 * p)) M Q := by
  have h40 := hk.1 r hr _ hn
  intro k
  induction k with
  | zero =>
    intro p hp
    have : p = h := by omega
    subst this
    refine v_X11_isSo_6 ⟨vin hr, ?_⟩
    rw [ncl (by omega), mrow hM hr, hn, oSs]
    exact br_f (nI_nlt (by omega) (by omega)) ⟨rfl, hq⟩
  | succ k ih =>
    intro p hp
    have ih1 := ih (p + 1) (by omega)
    refine v_X11_isSo_6 ⟨vin hr, ?_⟩
    rw [ncl (by omega), mrow hM hr, hn, oSs, nI_2p]
    exact br_t (nI_lt (by omega) (by omega)) (br_t rfl ih1)
theorem so_loop (hk : SOk S) (hM : RM S M) (hi : i < dn S.2.2.1) (hr : r < 6) {h : Nat} (hn : S.1.1 r = some (2 * h)) (hw : wtA (dn S.2.2.1) i (S.1.2 r) h) {kk s hd : Nat} (hxk : kk < 6) (hxs : s < 10) (hxh : hd < 2) (hq : Q (some (.int (bI (agB S.2.2.1 (kk, s, hd, gW (glD S.2.2.1 i), gR (glD S.2.2.1 i)) (S.1.2 r) h)))) M) :
    ∀ (k p : Nat), p + k = h → agA S.2.2.1 (kk, s, hd, gW (glD S.2.2.1 i), gR (glD S.2.2.1 i)) (S.1.2 r) p → P_X11_isSo_6 G (nI i) (nI r) (nI kk) (nI s) (nI hd) 1 (nI (2 * p)) M Q := by
  have h8 := hk.2.2.1.1
  have h40 := hk.1 r hr _ hn
  intro k
  induction k with
  | zero =>
    intro p hp ha
    have : p = h := by omega
    subst this
    refine v_X11_isSo_6 ⟨vin hr, ?_⟩
    rw [ncl (by omega), mrow hM hr, hn, oSs]
    rw [agB_t ha] at hq
    exact br_f (nI_nlt (by omega) (by omega)) ⟨rfl, hq⟩
  | succ k ih =>
    intro p hp ha
    have ih1 := ih (p + 1) (by omega)
    obtain ⟨⟨j1, j2, j3⟩, _⟩ := hw p (by omega)
    have f1 : M.1 73 (40 * r + 2 * p) = S.1.2 r (2 * p) := (hM.1 r hr).2 _ hn _ (by omega)
    have f2 : M.1 73 (40 * r + 2 * p + 1) = S.1.2 r (2 * p + 1) := (hM.1 r hr).2 _ hn (2 * p + 1) (by omega)
    have gi := hM.gl hi
    refine v_X11_isSo_6 ⟨vin hr, ?_⟩
    rw [ncl (by omega), mrow hM hr, hn, oSs, ix40, nI_1, nI_2p, ncl (by omega), ncl (by omega), f1, j3]
    refine br_t (nI_lt (by omega) (by omega)) (br_f (by decide) ⟨vin (by omega), ?_⟩)
    refine m_pairAs_ok (by omega) (by omega) (glD_ok hk.2.2.1 hi) (glD_ok hk.2.2.1 j1) hxk hxs hxh gi.2.2.2.1 gi.2.2.2.2 (hM.gl j1) (RI.mk ⟨vin (by omega), ?_⟩)
    rw [f2]
    refine ⟨fun c => ih1 (all_s ha c), fun c => ?_⟩
    rw [agB_f (fun q => c (q p (by omega)))] at hq
    exact so_loop0 hk hM hr hn hq k (p + 1) (by omega)
theorem so_ok (hk : SOk S) (hM : RM S M) (hi : i < dn S.2.2.1) (hr : r < 6) {h : Nat} (hn : S.1.1 r = some (2 * h)) (hw : wtA (dn S.2.2.1) i (S.1.2 r) h) {kk s hd : Nat} (hxk : kk < 6) (hxs : s < 10) (hxh : hd < 2) (hq : Q (some (.int (bI (agB S.2.2.1 (kk, s, hd, gW (glD S.2.2.1 i), gR (glD S.2.2.1 i)) (S.1.2 r) h)))) M) : C_X11_isSo G (nI i) (nI r) (nI kk) (nI s) (nI hd) M Q :=
  v_X11_isSo (so_loop hk hM hi hr hn hw hxk hxs hxh hq h 0 (by omega) (fun q hq => absurd hq (Nat.not_lt_zero q)))
def ssP (D : Dr) (i : Nat) (f : Nat → Int32) (h : Nat) (s : Nat) : Bool := agB D (gK (glD D i), s, gH (glD D i), gW (glD D i), gR (glD D i)) f h
theorem ss_loop (hk : SOk S) (M0 : Mem) (hC0 : RC S M0) (hi : i < dn S.2.2.1) (hr : r < 6) {h : Nat} (hn : S.1.1 r = some (2 * h)) (hw : wtA (dn S.2.2.1) i (S.1.2 r) h) (hq : ∀ M', Eqv (fun a _ => a = 37) M0 M' → Q (some (.int (nI (sb (ssP S.2.2.1 i (S.1.2 r) h) 10)))) M') :
    ∀ (k s : Nat) (M : Mem), s + k = 10 → Eqv (fun a _ => a = 37) M0 M → M.1 37 0 = nI (gK (glD S.2.2.1 i)) ∧ M.1 37 2 = nI (gH (glD S.2.2.1 i)) ∧ M.1 37 3 = nI (gW (glD S.2.2.1 i)) ∧ M.1 37 4 = nI (gR (glD S.2.2.1 i)) → P_X5_sortsLeft_19 G (nI r) (nI (sb (ssP S.2.2.1 i (S.1.2 r) h) s)) (nI s) M Q := by
  have ok := glD_ok hk.2.2.1 hi
  intro k
  induction k with
  | zero =>
    intro s M hs e hf
    have : s = 10 := by omega
    subst this
    exact v_X5_sortsLeft_19 (br_f (by decide) (hq M e))
  | succ k ih =>
    intro s M hs1 e hf
    have hs : s < 10 := by omega
    have ih1 := fun M2 => ih (s + 1) M2 (by omega)
    rw [show sb (ssP S.2.2.1 i (S.1.2 r) h) (s + 1) = sb (ssP S.2.2.1 i (S.1.2 r) h) s ||| (if ssP S.2.2.1 i (S.1.2 r) h s then 2 ^ s else 0) from rfl] at ih1
    refine v_X5_sortsLeft_19 (br_t (show nI s < nI 10 from nI_lt hs (by decide)) ?_)
    rintro _ rfl
    have e1 : Eqv (fun a _ => a = 37) M0 (upI M 37 1 (nI s)) := e.upI rfl
    have hC1 : RC S (upI M 37 1 (nI s)) := hC0.scr hk (e1.mono (by unfold scrC; omega))
    have gl : GlAt (upI M 37 1 (nI s)) 37 (gK (glD S.2.2.1 i), s, gH (glD S.2.2.1 i), gW (glD S.2.2.1 i), gR (glD S.2.2.1 i)) := ⟨by rw [upI_n _ _ (by omega)]; exact hf.1, upI_s _ _ _ _, by rw [upI_n _ _ (by omega)]; exact hf.2.1, by rw [upI_n _ _ (by omega)]; exact hf.2.2.1, by rw [upI_n _ _ (by omega)]; exact hf.2.2.2⟩
    have go : GlOk (gK (glD S.2.2.1 i), s, gH (glD S.2.2.1 i), gW (glD S.2.2.1 i), gR (glD S.2.2.1 i)) := ⟨ok.1, hs, ok.2.2⟩
    rw [sh1_tab s (by omega), nx_or, nI_1]
    refine ag_ok hk hC1 hr hn hw gl go (RI.mk ⟨fun c => ?_, fun c => ?_⟩)
    · have ih2 := ih1 _ e1 ⟨by rw [upI_n _ _ (by omega)]; exact hf.1, by rw [upI_n _ _ (by omega)]; exact hf.2.1, by rw [upI_n _ _ (by omega)]; exact hf.2.2.1, by rw [upI_n _ _ (by omega)]; exact hf.2.2.2⟩
      rw [show ssP S.2.2.1 i (S.1.2 r) h s = false from bI_0.mp c, if_neg (by decide), Nat.or_zero] at ih2
      exact ih2
    · rintro _ rfl
      have ih2 := ih1 _ e1 ⟨by rw [upI_n _ _ (by omega)]; exact hf.1, by rw [upI_n _ _ (by omega)]; exact hf.2.1, by rw [upI_n _ _ (by omega)]; exact hf.2.2.1, by rw [upI_n _ _ (by omega)]; exact hf.2.2.2⟩
      rw [show ssP S.2.2.1 i (S.1.2 r) h s = true from bI_n0.mp c, if_pos rfl] at ih2
      exact ih2
theorem ss_ok (hk : SOk S) (hC : RC S M) (hi : i < dn S.2.2.1) (hr : r < 6) {h : Nat} (hn : S.1.1 r = some (2 * h)) (hw : wtA (dn S.2.2.1) i (S.1.2 r) h) (hq : ∀ M', Eqv (fun a _ => a = 37) M M' → Q (some (.int (nI (sb (ssP S.2.2.1 i (S.1.2 r) h) 10)))) M') : C_X5_sortsLeft G (nI i) (nI r) M Q := by
  have h8 := hk.2.2.1.1
  refine v_X5_sortsLeft ⟨vin (by omega), ?_⟩
  rw [ncl (by omega)]
  refine like_ok rfl (kd8 hk.2.2.1 hi) (by omega) (hC.gl hi) (hC.wh hi) fun M1 e1 g1 _ => RV.mk ?_
  exact ss_loop hk M hC hi hr hn hw hq 10 0 M1 (by omega) e1 ⟨g1.1, g1.2.2.1, g1.2.2.2.1, g1.2.2.2.2⟩
theorem mss_loop (hk : SOk S) (hM : RM S M) (hi : i < dn S.2.2.1) (hr : r < 6) {h : Nat} (hn : S.1.1 r = some (2 * h)) (hw : wtA (dn S.2.2.1) i (S.1.2 r) h) (hq : Q (some (.int (nI (sb (ssP S.2.2.1 i (S.1.2 r) h) 10)))) M) :
    ∀ (k s : Nat), s + k = 10 → P_X11_sorts_19 G (nI i) (nI r) (nI (sb (ssP S.2.2.1 i (S.1.2 r) h) s)) (nI s) M Q := by
  have h8 := hk.2.2.1.1
  have ok := glD_ok hk.2.2.1 hi
  have gi := hM.gl hi
  intro k
  induction k with
  | zero =>
    intro s hs
    have : s = 10 := by omega
    subst this
    exact v_X11_sorts_19 (br_t (show nI 9 < nI 10 from nI_lt (by decide) (by decide)) hq)
  | succ k ih =>
    intro s hs1
    have hs : s < 10 := by omega
    have ih1 := ih (s + 1) (by omega)
    rw [show sb (ssP S.2.2.1 i (S.1.2 r) h) (s + 1) = sb (ssP S.2.2.1 i (S.1.2 r) h) s ||| (if ssP S.2.2.1 i (S.1.2 r) h s then 2 ^ s else 0) from rfl] at ih1
    refine v_X11_sorts_19 (br_f (show ¬ nI 9 < nI s from nI_nlt (by omega) (by omega)) ⟨vin (by omega), vin (by omega), ?_⟩)
    rw [ncl (by omega), gi.1, gi.2.2.1, sh1_tab s (by omega), nx_or, nI_1, show (0 : Int32) = nI 0 from rfl, nx_or, Nat.or_zero]
    refine so_ok hk hM hi hr hn hw ok.1 hs ok.2.2.1 (RI.mk ⟨fun c => ?_, fun c => ?_⟩)
    · rw [show ssP S.2.2.1 i (S.1.2 r) h s = false from bI_0.mp c, if_neg (by decide), Nat.or_zero] at ih1
      exact ih1
    · rintro _ rfl
      rw [show ssP S.2.2.1 i (S.1.2 r) h s = true from bI_n0.mp c, if_pos rfl] at ih1
      exact ih1
def hhP (D : Dr) (i : Nat) (f : Nat → Int32) (h : Nat) (s : Nat) : Bool := agB D (gK (glD D i), gS (glD D i), s, gW (glD D i), gR (glD D i)) f h
theorem hh_loop (hk : SOk S) (M0 : Mem) (hC0 : RC S M0) (hi : i < dn S.2.2.1) (hr : r < 6) {h : Nat} (hn : S.1.1 r = some (2 * h)) (hw : wtA (dn S.2.2.1) i (S.1.2 r) h) (hq : ∀ M', Eqv (fun a _ => a = 37) M0 M' → Q (some (.int (nI (sb (hhP S.2.2.1 i (S.1.2 r) h) 2)))) M') :
    ∀ (k s : Nat) (M : Mem), s + k = 2 → Eqv (fun a _ => a = 37) M0 M → M.1 37 0 = nI (gK (glD S.2.2.1 i)) ∧ M.1 37 1 = nI (gS (glD S.2.2.1 i)) ∧ M.1 37 3 = nI (gW (glD S.2.2.1 i)) ∧ M.1 37 4 = nI (gR (glD S.2.2.1 i)) → P_X5_handsLeft_19 G (nI r) (nI (sb (hhP S.2.2.1 i (S.1.2 r) h) s)) (nI s) M Q := by
  have ok := glD_ok hk.2.2.1 hi
  intro k
  induction k with
  | zero =>
    intro s M hs e hf
    have : s = 2 := by omega
    subst this
    exact v_X5_handsLeft_19 (br_f (by decide) (hq M e))
  | succ k ih =>
    intro s M hs1 e hf
    have hs : s < 2 := by omega
    have ih1 := fun M2 => ih (s + 1) M2 (by omega)
    rw [show sb (hhP S.2.2.1 i (S.1.2 r) h) (s + 1) = sb (hhP S.2.2.1 i (S.1.2 r) h) s ||| (if hhP S.2.2.1 i (S.1.2 r) h s then 2 ^ s else 0) from rfl] at ih1
    refine v_X5_handsLeft_19 (br_t (show nI s < nI 2 from nI_lt hs (by decide)) ?_)
    rintro _ rfl
    have e1 : Eqv (fun a _ => a = 37) M0 (upI M 37 2 (nI s)) := e.upI rfl
    have hC1 : RC S (upI M 37 2 (nI s)) := hC0.scr hk (e1.mono (by unfold scrC; omega))
    have gl : GlAt (upI M 37 2 (nI s)) 37 (gK (glD S.2.2.1 i), gS (glD S.2.2.1 i), s, gW (glD S.2.2.1 i), gR (glD S.2.2.1 i)) := ⟨by rw [upI_n _ _ (by omega)]; exact hf.1, by rw [upI_n _ _ (by omega)]; exact hf.2.1, upI_s _ _ _ _, by rw [upI_n _ _ (by omega)]; exact hf.2.2.1, by rw [upI_n _ _ (by omega)]; exact hf.2.2.2⟩
    have go : GlOk (gK (glD S.2.2.1 i), gS (glD S.2.2.1 i), s, gW (glD S.2.2.1 i), gR (glD S.2.2.1 i)) := ⟨ok.1, ok.2.1, hs, ok.2.2.2⟩
    rw [sh1_tab s (by omega), nx_or, nI_1]
    refine ag_ok hk hC1 hr hn hw gl go (RI.mk ⟨fun c => ?_, fun c => ?_⟩)
    · have ih2 := ih1 _ e1 ⟨by rw [upI_n _ _ (by omega)]; exact hf.1, by rw [upI_n _ _ (by omega)]; exact hf.2.1, by rw [upI_n _ _ (by omega)]; exact hf.2.2.1, by rw [upI_n _ _ (by omega)]; exact hf.2.2.2⟩
      rw [show hhP S.2.2.1 i (S.1.2 r) h s = false from bI_0.mp c, if_neg (by decide), Nat.or_zero] at ih2
      exact ih2
    · rintro _ rfl
      have ih2 := ih1 _ e1 ⟨by rw [upI_n _ _ (by omega)]; exact hf.1, by rw [upI_n _ _ (by omega)]; exact hf.2.1, by rw [upI_n _ _ (by omega)]; exact hf.2.2.1, by rw [upI_n _ _ (by omega)]; exact hf.2.2.2⟩
      rw [show hhP S.2.2.1 i (S.1.2 r) h s = true from bI_n0.mp c, if_pos rfl] at ih2
      exact ih2
theorem hh_ok (hk : SOk S) (hC : RC S M) (hi : i < dn S.2.2.1) (hr : r < 6) {h : Nat} (hn : S.1.1 r = some (2 * h)) (hw : wtA (dn S.2.2.1) i (S.1.2 r) h) (hq : ∀ M', Eqv (fun a _ => a = 37) M M' → Q (some (.int (nI (sb (hhP S.2.2.1 i (S.1.2 r) h) 2)))) M') : C_X5_handsLeft G (nI i) (nI r) M Q := by
  have h8 := hk.2.2.1.1
  refine v_X5_handsLeft ⟨vin (by omega), ?_⟩
  rw [ncl (by omega)]
  refine like_ok rfl (kd8 hk.2.2.1 hi) (by omega) (hC.gl hi) (hC.wh hi) fun M1 e1 g1 _ => RV.mk ?_
  exact hh_loop hk M hC hi hr hn hw hq 2 0 M1 (by omega) e1 ⟨g1.1, g1.2.1, g1.2.2.2.1, g1.2.2.2.2⟩
theorem mhh_loop (hk : SOk S) (hM : RM S M) (hi : i < dn S.2.2.1) (hr : r < 6) {h : Nat} (hn : S.1.1 r = some (2 * h)) (hw : wtA (dn S.2.2.1) i (S.1.2 r) h) (hq : Q (some (.int (nI (sb (hhP S.2.2.1 i (S.1.2 r) h) 2)))) M) :
    ∀ (k s : Nat), s + k = 2 → P_X11_hands_19 G (nI i) (nI r) (nI (sb (hhP S.2.2.1 i (S.1.2 r) h) s)) (nI s) M Q := by
  have h8 := hk.2.2.1.1
  have ok := glD_ok hk.2.2.1 hi
  have gi := hM.gl hi
  intro k
  induction k with
  | zero =>
    intro s hs
    have : s = 2 := by omega
    subst this
    exact v_X11_hands_19 (br_t (show nI 1 < nI 2 from nI_lt (by decide) (by decide)) hq)
  | succ k ih =>
    intro s hs1
    have hs : s < 2 := by omega
    have ih1 := ih (s + 1) (by omega)
    rw [show sb (hhP S.2.2.1 i (S.1.2 r) h) (s + 1) = sb (hhP S.2.2.1 i (S.1.2 r) h) s ||| (if hhP S.2.2.1 i (S.1.2 r) h s then 2 ^ s else 0) from rfl] at ih1
    refine v_X11_hands_19 (br_f (show ¬ nI 1 < nI s from nI_nlt (by omega) (by omega)) ⟨vin (by omega), vin (by omega), ?_⟩)
    rw [ncl (by omega), gi.1, gi.2.1, sh1_tab s (by omega), nx_or, nI_1, show (0 : Int32) = nI 0 from rfl, nx_or, Nat.or_zero]
    refine so_ok hk hM hi hr hn hw ok.1 ok.2.1 hs (RI.mk ⟨fun c => ?_, fun c => ?_⟩)
    · rw [show hhP S.2.2.1 i (S.1.2 r) h s = false from bI_0.mp c, if_neg (by decide), Nat.or_zero] at ih1
      exact ih1
    · rintro _ rfl
      rw [show hhP S.2.2.1 i (S.1.2 r) h s = true from bI_n0.mp c, if_pos rfl] at ih1
      exact ih1
def kkP (D : Dr) (i : Nat) (f : Nat → Int32) (h : Nat) (s : Nat) : Bool := agB D (s, gS (glD D i), gH (glD D i), gW (glD D i), gR (glD D i)) f h
theorem kk_loop (hk : SOk S) (M0 : Mem) (hC0 : RC S M0) (hi : i < dn S.2.2.1) (hr : r < 6) {h : Nat} (hn : S.1.1 r = some (2 * h)) (hw : wtA (dn S.2.2.1) i (S.1.2 r) h) (hq : ∀ M', Eqv (fun a _ => a = 37) M0 M' → Q (some (.int (nI (sb (kkP S.2.2.1 i (S.1.2 r) h) 6)))) M') :
    ∀ (k s : Nat) (M : Mem), s + k = 6 → Eqv (fun a _ => a = 37) M0 M → M.1 37 1 = nI (gS (glD S.2.2.1 i)) ∧ M.1 37 2 = nI (gH (glD S.2.2.1 i)) ∧ M.1 37 3 = nI (gW (glD S.2.2.1 i)) ∧ M.1 37 4 = nI (gR (glD S.2.2.1 i)) → P_X5_kindsLeft_19 G (nI r) (nI (sb (kkP S.2.2.1 i (S.1.2 r) h) s)) (nI s) M Q := by
  have ok := glD_ok hk.2.2.1 hi
  intro k
  induction k with
  | zero =>
    intro s M hs e hf
    have : s = 6 := by omega
    subst this
    exact v_X5_kindsLeft_19 (br_f (by decide) (hq M e))
  | succ k ih =>
    intro s M hs1 e hf
    have hs : s < 6 := by omega
    have ih1 := fun M2 => ih (s + 1) M2 (by omega)
    rw [show sb (kkP S.2.2.1 i (S.1.2 r) h) (s + 1) = sb (kkP S.2.2.1 i (S.1.2 r) h) s ||| (if kkP S.2.2.1 i (S.1.2 r) h s then 2 ^ s else 0) from rfl] at ih1
    refine v_X5_kindsLeft_19 (br_t (show nI s < nI 6 from nI_lt hs (by decide)) ?_)
    rintro _ rfl
    have e1 : Eqv (fun a _ => a = 37) M0 (upI M 37 0 (nI s)) := e.upI rfl
    have hC1 : RC S (upI M 37 0 (nI s)) := hC0.scr hk (e1.mono (by unfold scrC; omega))
    have gl : GlAt (upI M 37 0 (nI s)) 37 (s, gS (glD S.2.2.1 i), gH (glD S.2.2.1 i), gW (glD S.2.2.1 i), gR (glD S.2.2.1 i)) := ⟨upI_s _ _ _ _, by rw [upI_n _ _ (by omega)]; exact hf.1, by rw [upI_n _ _ (by omega)]; exact hf.2.1, by rw [upI_n _ _ (by omega)]; exact hf.2.2.1, by rw [upI_n _ _ (by omega)]; exact hf.2.2.2⟩
    have go : GlOk (s, gS (glD S.2.2.1 i), gH (glD S.2.2.1 i), gW (glD S.2.2.1 i), gR (glD S.2.2.1 i)) := ⟨hs, ok.2⟩
    rw [sh1_tab s (by omega), nx_or, nI_1]
    refine ag_ok hk hC1 hr hn hw gl go (RI.mk ⟨fun c => ?_, fun c => ?_⟩)
    · have ih2 := ih1 _ e1 ⟨by rw [upI_n _ _ (by omega)]; exact hf.1, by rw [upI_n _ _ (by omega)]; exact hf.2.1, by rw [upI_n _ _ (by omega)]; exact hf.2.2.1, by rw [upI_n _ _ (by omega)]; exact hf.2.2.2⟩
      rw [show kkP S.2.2.1 i (S.1.2 r) h s = false from bI_0.mp c, if_neg (by decide), Nat.or_zero] at ih2
      exact ih2
    · rintro _ rfl
      have ih2 := ih1 _ e1 ⟨by rw [upI_n _ _ (by omega)]; exact hf.1, by rw [upI_n _ _ (by omega)]; exact hf.2.1, by rw [upI_n _ _ (by omega)]; exact hf.2.2.1, by rw [upI_n _ _ (by omega)]; exact hf.2.2.2⟩
      rw [show kkP S.2.2.1 i (S.1.2 r) h s = true from bI_n0.mp c, if_pos rfl] at ih2
      exact ih2
theorem kk_ok (hk : SOk S) (hC : RC S M) (hi : i < dn S.2.2.1) (hr : r < 6) {h : Nat} (hn : S.1.1 r = some (2 * h)) (hw : wtA (dn S.2.2.1) i (S.1.2 r) h) (hq : ∀ M', Eqv (fun a _ => a = 37) M M' → Q (some (.int (nI (sb (kkP S.2.2.1 i (S.1.2 r) h) 6)))) M') : C_X5_kindsLeft G (nI i) (nI r) M Q := by
  have h8 := hk.2.2.1.1
  refine v_X5_kindsLeft ⟨vin (by omega), ?_⟩
  rw [ncl (by omega)]
  refine like_ok rfl (kd8 hk.2.2.1 hi) (by omega) (hC.gl hi) (hC.wh hi) fun M1 e1 g1 _ => RV.mk ?_
  exact kk_loop hk M hC hi hr hn hw hq 6 0 M1 (by omega) e1 ⟨g1.2.1, g1.2.2.1, g1.2.2.2.1, g1.2.2.2.2⟩
theorem mkk_loop (hk : SOk S) (hM : RM S M) (hi : i < dn S.2.2.1) (hr : r < 6) {h : Nat} (hn : S.1.1 r = some (2 * h)) (hw : wtA (dn S.2.2.1) i (S.1.2 r) h) (hq : Q (some (.int (nI (sb (kkP S.2.2.1 i (S.1.2 r) h) 6)))) M) :
    ∀ (k s : Nat), s + k = 6 → P_X11_kindsBy_5 G (nI i) (nI r) (nI (sb (kkP S.2.2.1 i (S.1.2 r) h) s)) (nI s) M Q := by
  have h8 := hk.2.2.1.1
  have ok := glD_ok hk.2.2.1 hi
  have gi := hM.gl hi
  intro k
  induction k with
  | zero =>
    intro s hs
    have : s = 6 := by omega
    subst this
    exact v_X11_kindsBy_5 (br_f (by decide) hq)
  | succ k ih =>
    intro s hs1
    have hs : s < 6 := by omega
    have ih1 := ih (s + 1) (by omega)
    rw [show sb (kkP S.2.2.1 i (S.1.2 r) h) (s + 1) = sb (kkP S.2.2.1 i (S.1.2 r) h) s ||| (if kkP S.2.2.1 i (S.1.2 r) h s then 2 ^ s else 0) from rfl] at ih1
    refine v_X11_kindsBy_5 (br_t (show nI s < nI 6 from nI_lt hs (by decide)) ⟨vin (by omega), vin (by omega), ?_⟩)
    rw [ncl (by omega), gi.2.1, gi.2.2.1, sh1_tab s (by omega), nx_or, nI_1, show (0 : Int32) = nI 0 from rfl, nx_or, Nat.or_zero]
    refine so_ok hk hM hi hr hn hw hs ok.2.1 ok.2.2.1 (RI.mk ⟨fun c => ?_, fun c => ?_⟩)
    · rw [show kkP S.2.2.1 i (S.1.2 r) h s = false from bI_0.mp c, if_neg (by decide), Nat.or_zero] at ih1
      exact ih1
    · rintro _ rfl
      rw [show kkP S.2.2.1 i (S.1.2 r) h s = true from bI_n0.mp c, if_pos rfl] at ih1
      exact ih1
theorem law_sorts (hB : Bo M) (x y : Int32) : C_X10_sorts G x y M (RI fun r M1 => C_X11_sorts G x y M1 (RI fun r2 M2 => r = r2 ∧ Bo M2)) := by
  obtain ⟨S, hk, hC, hM⟩ := id hB
  rcases gs_or (G := G) hk x y with ⟨v, S', hk', v0, v1, jC, jM⟩ | ⟨i, r, h, rfl, hi, rfl, hr, hn, hw, jC, jM⟩
  · refine v_X10_sorts (jC _ _ hC fun M1 hC1 e1 => RI.mk (br_f v1 (RI.mk (v_X11_sorts (jM _ _ (hM.oth e1) fun M2 hM2 e2 => RI.mk (br_t v0 (RI.mk ⟨rfl, Bo.mk hk' (hC1.oth hk' e2) hM2⟩)))))))
  · refine v_X10_sorts (jC _ _ hC (RI.mk (br_t rfl (ss_ok hk hC hi hr hn hw fun M1 e1 => RI.mk (RI.mk ?_)))))
    have hC1 : RC S M1 := hC.scr hk (e1.mono (by unfold scrC; omega))
    have hM1 : RM S M1 := hM.oth (e1.mono (by omega))
    exact v_X11_sorts (jM _ _ hM1 (RI.mk (br_f (by decide) (mss_loop hk hM1 hi hr hn hw (RI.mk ⟨rfl, Bo.mk hk hC1 hM1⟩) 10 0 (by omega)))))
theorem law_hands (hB : Bo M) (x y : Int32) : C_X10_hands G x y M (RI fun r M1 => C_X11_hands G x y M1 (RI fun r2 M2 => r = r2 ∧ Bo M2)) := by
  obtain ⟨S, hk, hC, hM⟩ := id hB
  rcases gs_or (G := G) hk x y with ⟨v, S', hk', v0, v1, jC, jM⟩ | ⟨i, r, h, rfl, hi, rfl, hr, hn, hw, jC, jM⟩
  · refine v_X10_hands (jC _ _ hC fun M1 hC1 e1 => RI.mk (br_f v1 (RI.mk (v_X11_hands (jM _ _ (hM.oth e1) fun M2 hM2 e2 => RI.mk (br_t v0 (RI.mk ⟨rfl, Bo.mk hk' (hC1.oth hk' e2) hM2⟩)))))))
  · refine v_X10_hands (jC _ _ hC (RI.mk (br_t rfl (hh_ok hk hC hi hr hn hw fun M1 e1 => RI.mk (RI.mk ?_)))))
    have hC1 : RC S M1 := hC.scr hk (e1.mono (by unfold scrC; omega))
    have hM1 : RM S M1 := hM.oth (e1.mono (by omega))
    exact v_X11_hands (jM _ _ hM1 (RI.mk (br_f (by decide) (mhh_loop hk hM1 hi hr hn hw (RI.mk ⟨rfl, Bo.mk hk hC1 hM1⟩) 2 0 (by omega)))))
theorem law_kinds (hB : Bo M) (x y : Int32) : C_X10_kinds G x y M (RI fun r M1 => C_X11_kinds G x y M1 (RI fun r2 M2 => r = r2 ∧ Bo M2)) := by
  obtain ⟨S, hk, hC, hM⟩ := id hB
  rcases gs_or (G := G) hk x y with ⟨v, S', hk', v0, v1, jC, jM⟩ | ⟨i, r, h, rfl, hi, rfl, hr, hn, hw, jC, jM⟩
  · refine v_X10_kinds (jC _ _ hC fun M1 hC1 e1 => RI.mk (br_f v1 (RI.mk (v_X11_kinds (jM _ _ (hM.oth e1) fun M2 hM2 e2 => RI.mk (br_t v0 (RI.mk ⟨rfl, Bo.mk hk' (hC1.oth hk' e2) hM2⟩)))))))
  · refine v_X10_kinds (jC _ _ hC (RI.mk (br_t rfl (kk_ok hk hC hi hr hn hw fun M1 e1 => RI.mk (RI.mk ?_)))))
    have hC1 : RC S M1 := hC.scr hk (e1.mono (by unfold scrC; omega))
    have hM1 : RM S M1 := hM.oth (e1.mono (by omega))
    exact v_X11_kinds (jM _ _ hM1 (RI.mk (br_f (by decide) (v_X11_kindsBy (mkk_loop hk hM1 hi hr hn hw (RI.mk (RI.mk ⟨rfl, Bo.mk hk hC1 hM1⟩)) 6 0 (by omega))))))
end GS2
