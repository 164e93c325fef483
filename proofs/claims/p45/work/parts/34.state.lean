/-! the state that both hold -/
/-- a deed: what (1 worn, 2 lost, 3 back, 4 out, 0 nothing), of whom -/
abbrev Deed : Type := Nat × Nat × Nat
/-- a glove as it was told: kind, sort, hand, how warm -/
abbrev Gs : Type := Nat × Nat × Nat × Nat
/-- how many, the room, the gloves, the deeds -/
abbrev Dr : Type := Nat × Nat × (Nat → Gs) × List Deed
/-- findings, the latest, asked, upper, lower -/
abbrev To : Type := (Nat → Int32) × Int32 × Int32 × Int64 × Int64
abbrev Ke : Type := Nat → Option (List Deed)
abbrev St : Type := RSt × RSt × Dr × Ke × To
abbrev dn (D : Dr) : Nat := D.1
abbrev drm (D : Dr) : Nat := D.2.1
abbrev dg (D : Dr) : Nat → Gs := D.2.2.1
abbrev dL (D : Dr) : List Deed := D.2.2.2
/-- wear and where (0 in the drawer, 1 lost, 2 out) behind a deed -/
def apD (s : Nat → Nat × Nat) (d : Deed) : Nat → Nat × Nat := fun i => match d.1 with
  | 1 => if i = d.2.1 ∨ i = d.2.2 then ((s i).1 + 1, (s i).2) else s i
  | 2 => if i = d.2.1 then ((s i).1, 1) else s i
  | 3 => if i = d.2.1 then ((s i).1, 0) else s i
  | 4 => if i = d.2.1 then ((s i).1, 2) else s i
  | _ => s i
def runD (L : List Deed) : Nat → Nat × Nat := L.foldl apD (fun _ => (0, 0))
def wrO (L : List Deed) (i : Nat) : Nat := (runD L i).1
def whO (L : List Deed) (i : Nat) : Nat := (runD L i).2
theorem runD_app (L : List Deed) (d : Deed) : runD (L ++ [d]) = apD (runD L) d := by simp [runD, List.foldl_append]
theorem apD_le (s : Nat → Nat × Nat) (d : Deed) (i : Nat) : (apD s d i).1 ≤ (s i).1 + 1 ∧ ((s i).2 < 3 → (apD s d i).2 < 3) := by
  unfold apD
  split <;> (try split) <;> simp
theorem run_le : ∀ (L : List Deed) (s : Nat → Nat × Nat) (i : Nat), (s i).2 < 3 → (L.foldl apD s i).1 ≤ (s i).1 + L.length ∧ (L.foldl apD s i).2 < 3
  | [], s, i, h => ⟨Nat.le_refl _, h⟩
  | d :: L, s, i, h => by
    have h1 := apD_le s d i
    have h2 := run_le L (apD s d) i (h1.2 h)
    rw [List.foldl_cons, List.length_cons]
    exact ⟨by omega, h2.2⟩
theorem wrO_le (L : List Deed) (i : Nat) : wrO L i ≤ L.length := by
  have h := (run_le L (fun _ => (0, 0)) i (by simp)).1
  simpa [wrO, runD] using h
theorem whO_lt (L : List Deed) (i : Nat) : whO L i < 3 := (run_le L (fun _ => (0, 0)) i (by simp)).2
/-- a glove of the drawer, with its wear -/
def glD (D : Dr) (i : Nat) : Gl := ((dg D i).1, (dg D i).2.1, (dg D i).2.2.1, (dg D i).2.2.2, wrO (dL D) i)
def GsOk (g : Gs) : Prop := g.1 < 6 ∧ g.2.1 < 10 ∧ g.2.2.1 < 2 ∧ g.2.2.2 < 10
def DdOk (n : Nat) (d : Deed) : Prop := d.1 < 5 ∧ d.2.1 < n ∧ d.2.2 < n ∧ (d.1 = 0 → d.2.1 = 0 ∧ d.2.2 = 0) ∧ (2 ≤ d.1 → d.2.2 = d.2.1) ∧ (d.1 = 1 → d.2.1 ≠ d.2.2)
def LOk (n : Nat) (L : List Deed) : Prop := L.length ≤ 40 ∧ ∀ d ∈ L, DdOk n d
def DOk (D : Dr) : Prop := dn D ≤ 8 ∧ drm D ≤ 8 ∧ (∀ i, i < dn D → GsOk (dg D i)) ∧ LOk (dn D) (dL D)
def KOk (n : Nat) (K : Ke) : Prop := ∀ k, k < 3 → ∀ L, K k = some L → LOk n L ∧ 0 < n
def SOk (S : St) : Prop := ROk 6 40 S.1 ∧ ROk 4 60 S.2.1 ∧ DOk S.2.2.1 ∧ KOk (dn S.2.2.1) S.2.2.2.1
theorem glD_ok {D : Dr} (h : DOk D) {i : Nat} (hi : i < dn D) : GlOk (glD D i) := by
  obtain ⟨a, b, c, d⟩ := h.2.2.1 i hi
  exact ⟨a, b, c, d, Nat.lt_of_le_of_lt (wrO_le _ _) (by have := h.2.2.2.1; omega)⟩
def cod (d : Deed) : Nat := 100 * d.1 + 10 * d.2.1 + d.2.2
/-- the reference's words for a deed -/
def mwh (d : Deed) : Nat := if d.1 = 0 then 4 else d.1 - 1
def mwb (d : Deed) : Nat := if d.1 = 1 then d.2.2 else 0
def LsC (a : Nat) (L : List Deed) (M : Mem) : Prop := ∀ (j : Nat) (d : Deed), L[j]? = some d → M.1 a j = nI (cod d)
def LsM (a o : Nat) (L : List Deed) (M : Mem) : Prop := ∀ (j : Nat) (d : Deed), L[j]? = some d → M.1 a (o + 3 * j) = nI (mwh d) ∧ M.1 a (o + 3 * j + 1) = nI d.2.1 ∧ M.1 a (o + 3 * j + 2) = nI (mwb d)
def DrC (D : Dr) (M : Mem) : Prop := M.1 12 2 = nI (dn D) ∧ M.1 12 3 = nI (drm D) ∧ (∀ i, i < dn D → GlAt M (55 + i) (glD D i) ∧ M.1 (55 + i) 5 = nI (whO (dL D) i)) ∧ M.1 14 1 = nI (dL D).length ∧ LsC 15 (dL D) M
def DrM (D : Dr) (M : Mem) : Prop := M.1 71 20 = nI (dn D) ∧ M.1 71 19 = nI (drm D) ∧ (∀ i, i < dn D → GlM M i (glD D i) ∧ M.1 86 i = nI (whO (dL D) i)) ∧ M.1 71 27 = nI (dL D).length ∧ LsM 88 0 (dL D) M
def KeC (K : Ke) (M : Mem) : Prop := ∀ k, k < 3 → M.1 (17 + k) 1 = oS ((K k).map List.length) ∧ ∀ L, K k = some L → LsC (20 + k) L M
def KeM (K : Ke) (M : Mem) : Prop := ∀ k, k < 3 → M.1 89 k = oS ((K k).map List.length) ∧ ∀ L, K k = some L → LsM 90 (120 * k) L M
def ToC (o : To) (M : Mem) : Prop := (∀ f, 1 ≤ f → f ≤ 5 → M.1 44 f = o.1 f) ∧ M.1 0 11 = o.2.1 ∧ M.1 0 12 = o.2.2.1 ∧ M.2 42 1 = o.2.2.2.1 ∧ M.2 42 2 = o.2.2.2.2
def ToM (o : To) (M : Mem) : Prop := (∀ f, 1 ≤ f → f ≤ 5 → M.1 72 f = o.1 f) ∧ M.1 71 3 = o.2.1 ∧ M.1 71 0 = o.2.2.1 ∧ M.2 71 1 = o.2.2.2.1 ∧ M.2 71 2 = o.2.2.2.2
/-- sets in threes: bit i counts 3^i -/
def th3 : Nat → Nat → Nat
  | 0, _ => 0
  | n + 1, m => 3 * th3 n (m / 2) + m % 2
def TrC (M : Mem) : Prop := ∀ m, m < 256 → M.1 41 m = nI (th3 8 m)
def RowsM (N mx zb cb : Nat) (s : RSt) (M : Mem) : Prop := ∀ r, r < N → M.1 zb r = oS (s.1 r) ∧ ∀ n, s.1 r = some n → ∀ i, i < n → M.1 cb (mx * r + i) = s.2 r i
def RC (S : St) (M : Mem) : Prop := RowsC 1 6 40 0 3 45 S.1 M ∧ RowsC 4 4 60 32 6 51 S.2.1 M ∧ DrC S.2.2.1 M ∧ KeC S.2.2.2.1 M ∧ ToC S.2.2.2.2 M ∧ TrC M
def RM (S : St) (M : Mem) : Prop := RowsM 6 40 74 73 S.1 M ∧ RowsM 4 60 76 75 S.2.1 M ∧ DrM S.2.2.1 M ∧ KeM S.2.2.2.1 M ∧ ToM S.2.2.2.2 M
/-- behind a call of the class the reference's places are as they were; and the other way about -/
abbrev EqC : Mem → Mem → Prop := Eqv (fun a _ => a < 71)
abbrev EqM : Mem → Mem → Prop := Eqv (fun a _ => 71 ≤ a)
theorem LsC.eqv {a : Nat} {L : List Deed} {M M' : Mem} {P : Nat → Nat → Prop} (h : LsC a L M) (e : Eqv P M M') (hp : ∀ k, ¬ P a k) : LsC a L M' := fun j d hj => by rw [e.i (hp j)]; exact h j d hj
theorem LsM.eqv {a o : Nat} {L : List Deed} {M M' : Mem} {P : Nat → Nat → Prop} (h : LsM a o L M) (e : Eqv P M M') (hp : ∀ k, ¬ P a k) : LsM a o L M' := fun j d hj => by rw [e.i (hp _), e.i (hp _), e.i (hp _)]; exact h j d hj
theorem GlAt.eqv {a : Nat} {x : Gl} {M M' : Mem} {P : Nat → Nat → Prop} (h : GlAt M a x) (e : Eqv P M M') (hp : ∀ k, k < 5 → ¬ P a k) : GlAt M' a x := by
  refine ⟨?_, ?_, ?_, ?_, ?_⟩
  · rw [e.i (hp 0 (by decide))]; exact h.1
  · rw [e.i (hp 1 (by decide))]; exact h.2.1
  · rw [e.i (hp 2 (by decide))]; exact h.2.2.1
  · rw [e.i (hp 3 (by decide))]; exact h.2.2.2.1
  · rw [e.i (hp 4 (by decide))]; exact h.2.2.2.2
theorem GlM.eqv {i : Nat} {x : Gl} {M M' : Mem} {P : Nat → Nat → Prop} (h : GlM M i x) (e : Eqv P M M') (hp : ∀ a, 82 ≤ a → a ≤ 87 → ¬ P a i) : GlM M' i x := by
  refine ⟨?_, ?_, ?_, ?_, ?_⟩
  · rw [e.i (hp _ (by decide) (by decide))]; exact h.1
  · rw [e.i (hp _ (by decide) (by decide))]; exact h.2.1
  · rw [e.i (hp _ (by decide) (by decide))]; exact h.2.2.1
  · rw [e.i (hp _ (by decide) (by decide))]; exact h.2.2.2.1
  · rw [e.i (hp _ (by decide) (by decide))]; exact h.2.2.2.2
theorem DrC.eqv {D : Dr} {M M' : Mem} {P : Nat → Nat → Prop} (hk : dn D ≤ 8) (h : DrC D M) (e : Eqv P M M') (hp : ∀ a k, P a k → ¬ (a = 12 ∧ 2 ≤ k) ∧ ¬ (55 ≤ a ∧ a ≤ 62) ∧ ¬ (a = 14 ∧ k = 1) ∧ a ≠ 15) : DrC D M' := by
  refine ⟨by rw [e.i (fun q => (hp _ _ q).1 (by omega))]; exact h.1, by rw [e.i (fun q => (hp _ _ q).1 (by omega))]; exact h.2.1, fun i hi => ⟨(h.2.2.1 i hi).1.eqv e fun k _ q => (hp _ _ q).2.1 (by omega), ?_⟩, by rw [e.i (fun q => (hp _ _ q).2.2.1 (by omega))]; exact h.2.2.2.1, h.2.2.2.2.eqv e fun k q => (hp _ _ q).2.2.2 rfl⟩
  rw [e.i (fun q => (hp _ _ q).2.1 (by omega))]
  exact (h.2.2.1 i hi).2
theorem DrM.eqv {D : Dr} {M M' : Mem} {P : Nat → Nat → Prop} (h : DrM D M) (e : Eqv P M M') (hp : ∀ a k, P a k → ¬ (a = 71 ∧ (k = 19 ∨ k = 20 ∨ k = 27)) ∧ ¬ (82 ≤ a ∧ a ≤ 88)) : DrM D M' := by
  refine ⟨by rw [e.i (fun q => (hp _ _ q).1 (by omega))]; exact h.1, by rw [e.i (fun q => (hp _ _ q).1 (by omega))]; exact h.2.1, fun i hi => ⟨(h.2.2.1 i hi).1.eqv e fun a h1 h2 q => (hp _ _ q).2 (by omega), ?_⟩, by rw [e.i (fun q => (hp _ _ q).1 (by omega))]; exact h.2.2.2.1, h.2.2.2.2.eqv e fun k q => (hp _ _ q).2 (by omega)⟩
  rw [e.i (fun q => (hp _ _ q).2 (by omega))]
  exact (h.2.2.1 i hi).2
theorem KeC.eqv {K : Ke} {M M' : Mem} {P : Nat → Nat → Prop} (h : KeC K M) (e : Eqv P M M') (hp : ∀ a k, P a k → ¬ (17 ≤ a ∧ a ≤ 22)) : KeC K M' := fun k hk =>
  ⟨by rw [e.i (fun q => hp _ _ q (by omega))]; exact (h k hk).1, fun L hL => ((h k hk).2 L hL).eqv e fun j q => hp _ _ q (by omega)⟩
theorem KeM.eqv {K : Ke} {M M' : Mem} {P : Nat → Nat → Prop} (h : KeM K M) (e : Eqv P M M') (hp : ∀ a k, P a k → ¬ (89 ≤ a ∧ a ≤ 90)) : KeM K M' := fun k hk =>
  ⟨by rw [e.i (fun q => hp _ _ q (by omega))]; exact (h k hk).1, fun L hL => ((h k hk).2 L hL).eqv e fun j q => hp _ _ q (by omega)⟩
theorem ToC.eqv {o : To} {M M' : Mem} {P : Nat → Nat → Prop} (h : ToC o M) (e : Eqv P M M') (hp : ∀ a k, P a k → ¬ (a = 0 ∧ 11 ≤ k) ∧ a ≠ 44 ∧ ¬ (a = 42 ∧ 1 ≤ k)) : ToC o M' :=
  ⟨fun f h1 h2 => by rw [e.i (fun q => (hp _ _ q).2.1 rfl)]; exact h.1 f h1 h2, by rw [e.i (fun q => (hp _ _ q).1 (by omega))]; exact h.2.1, by rw [e.i (fun q => (hp _ _ q).1 (by omega))]; exact h.2.2.1, by rw [e.l (fun q => (hp _ _ q).2.2 (by omega))]; exact h.2.2.2.1, by rw [e.l (fun q => (hp _ _ q).2.2 (by omega))]; exact h.2.2.2.2⟩
theorem ToM.eqv {o : To} {M M' : Mem} {P : Nat → Nat → Prop} (h : ToM o M) (e : Eqv P M M') (hp : ∀ a k, P a k → ¬ (a = 71 ∧ k ≤ 3) ∧ a ≠ 72) : ToM o M' :=
  ⟨fun f h1 h2 => by rw [e.i (fun q => (hp _ _ q).2 rfl)]; exact h.1 f h1 h2, by rw [e.i (fun q => (hp _ _ q).1 (by omega))]; exact h.2.1, by rw [e.i (fun q => (hp _ _ q).1 (by omega))]; exact h.2.2.1, by rw [e.l (fun q => (hp _ _ q).1 (by omega))]; exact h.2.2.2.1, by rw [e.l (fun q => (hp _ _ q).1 (by omega))]; exact h.2.2.2.2⟩
theorem RowsM.eqv {N mx zb cb : Nat} {s : RSt} {M M' : Mem} {P : Nat → Nat → Prop} (h : RowsM N mx zb cb s M) (e : Eqv P M M') (hp : ∀ a k, P a k → a ≠ zb ∧ a ≠ cb) : RowsM N mx zb cb s M' := fun r hr =>
  ⟨by rw [e.i (fun q => (hp _ _ q).1 rfl)]; exact (h r hr).1, fun n hn i hi => by rw [e.i (fun q => (hp _ _ q).2 rfl)]; exact (h r hr).2 n hn i hi⟩
theorem TrC.eqv {M M' : Mem} {P : Nat → Nat → Prop} (h : TrC M) (e : Eqv P M M') (hp : ∀ k, ¬ P 41 k) : TrC M' := fun m hm => by rw [e.i (hp m)]; exact h m hm
/-- what is free for the class's helpers: all that RC doesn't speak of -/
def scrC (a k : Nat) : Prop := (7 ≤ a ∧ a ≤ 11) ∨ (23 ≤ a ∧ a ≤ 40) ∨ a = 43 ∨ (63 ≤ a ∧ a ≤ 70) ∨ (a = 42 ∧ k = 0)
def scrM (a k : Nat) : Prop := (a = 71 ∧ ((10 ≤ k ∧ k ≤ 18) ∨ k = 34)) ∨ (77 ≤ a ∧ a ≤ 81) ∨ (91 ≤ a ∧ a ≤ 94)
theorem RC.scr {S : St} {M M' : Mem} (hk : SOk S) (h : RC S M) (e : Eqv scrC M M') : RC S M' := by
  obtain ⟨a, b, c, d, f, g⟩ := h
  refine ⟨a.eqv e ?_, b.eqv e ?_, c.eqv hk.2.2.1.1 e ?_, d.eqv e ?_, f.eqv e ?_, g.eqv e ?_⟩ <;> (unfold scrC; omega)
theorem RM.scr {S : St} {M M' : Mem} (h : RM S M) (e : Eqv scrM M M') : RM S M' := by
  obtain ⟨a, b, c, d, f⟩ := h
  refine ⟨a.eqv e ?_, b.eqv e ?_, c.eqv e ?_, d.eqv e ?_, f.eqv e ?_⟩ <;> (unfold scrM; omega)
theorem RC.oth {S : St} {M M' : Mem} (hk : SOk S) (h : RC S M) (e : EqM M M') : RC S M' := by
  obtain ⟨a, b, c, d, f, g⟩ := h
  refine ⟨a.eqv e ?_, b.eqv e ?_, c.eqv hk.2.2.1.1 e ?_, d.eqv e ?_, f.eqv e ?_, g.eqv e ?_⟩ <;> omega
theorem RM.oth {S : St} {M M' : Mem} (h : RM S M) (e : EqC M M') : RM S M' := by
  obtain ⟨a, b, c, d, f⟩ := h
  refine ⟨a.eqv e ?_, b.eqv e ?_, c.eqv e ?_, d.eqv e ?_, f.eqv e ?_⟩ <;> omega
/-- both at once -/
def Bo (M : Mem) : Prop := ∃ S : St, SOk S ∧ RC S M ∧ RM S M
