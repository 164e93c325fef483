/-! rules of a frame: an instruction a rule, over the memory -/
theorem mapIdx_at {G : Glob} {M : Mem} {a c k t : Nat} (h : (fks c)[k]? = some t) : ((fks c).mapIdx (fun k t => fv G M a k t))[k]? = some (fv G M a k t) := by
  rw [List.getElem?_mapIdx, h]
  rfl
theorem mapIdx_upI {G : Glob} {M : Mem} {a c k : Nat} {v : Int32} (h : (fks c)[k]? = some 0) : ((fks c).mapIdx (fun k t => fv G M a k t)).set k (.int v) = (fks c).mapIdx (fun j t => fv G (upI M a k v) a j t) := by
  apply List.ext_getElem?
  intro j
  by_cases hj : j = k
  · subst hj
    rw [List.getElem?_set_self (by rw [List.length_mapIdx]; exact (List.getElem?_eq_some_iff.mp h).1), List.getElem?_mapIdx, h]
    simp [fv, upI]
  · rw [List.getElem?_set_ne (Ne.symm hj), List.getElem?_mapIdx, List.getElem?_mapIdx]
    have e : ∀ t, fv G M a j t = fv G (upI M a k v) a j t := by
      intro t
      unfold fv
      split <;> simp [upI, hj]
    cases (fks c)[j]? with
    | none => rfl
    | some t => simp [e t]
theorem mapIdx_upL {G : Glob} {M : Mem} {a c k : Nat} {v : Int64} (h : (fks c)[k]? = some 1) : ((fks c).mapIdx (fun k t => fv G M a k t)).set k (.long v) = (fks c).mapIdx (fun j t => fv G (upL M a k v) a j t) := by
  apply List.ext_getElem?
  intro j
  by_cases hj : j = k
  · subst hj
    rw [List.getElem?_set_self (by rw [List.length_mapIdx]; exact (List.getElem?_eq_some_iff.mp h).1), List.getElem?_mapIdx, h]
    simp [fv, upL]
  · rw [List.getElem?_set_ne (Ne.symm hj), List.getElem?_mapIdx, List.getElem?_mapIdx]
    have e : ∀ t, fv G M a j t = fv G (upL M a k v) a j t := by
      intro t
      unfold fv
      split <;> simp [upL, hj]
    cases (fks c)[j]? with
    | none => rfl
    | some t => simp [e t]
theorem upd_upI (M : Mem) (a k : Nat) (v : Int32) : upd (M.1 a) k v = (upI M a k v).1 a := by
  funext j
  simp [upd, upI]
/-- what a field of a class is: its class's row of vwCl, its words, its place and type -/
def FB (ci k t : Nat) (r nm ds : String) : Prop := ∃ (C : String) (T : u_T) (N : Nat), vwCl[ci]? = some (C, T, N) ∧ (∀ w ∈ u_ws C T N, w ∈ gtbl) ∧ k < N ∧ (T k).1 = r ∧ (T k).2.1 = nm ∧ (T k).2.2.1 = ds ∧ (fks ci)[k]? = some t ∧ ci < 12
/-- and for a store -/
def FP (ci k t : Nat) (r nm ds : String) : Prop := ∃ (C : String) (T : u_T) (N : Nat) (ty0 : Nat → FieldType), vwCl[ci]? = some (C, T, N) ∧ (∀ w ∈ u_ws C T N, w ∈ gtbl) ∧ k < N ∧ (T k).1 = r ∧ (T k).2.1 = nm ∧ (T k).2.2.1 = ds ∧ (fks ci)[k]? = some t ∧ ci < 12 ∧
  (∀ k, k < N → parseFieldDescriptor (T k).2.2.1 = some (ty0 k)) ∧ (∀ a, a < N → ∀ b, b < N → a ≠ b → (T a).2.1 ≠ (T b).2.1) ∧ (T k).2.2.2 = false ∧ parseFieldDescriptor ds = some (if t = 0 then .int else .long) ∧ N = (fks ci).length
section FR
variable {p : Program} {l : Launch} {e : Env} {R : Room} {s : State} {m : MethodId} {args : Array Value} {below : List Frame} {meth : Method} {c : Code} {cells slots : Nat} {Qf : State → Prop}
variable {G : Glob} {nL : Nat} {cc : ByteArray} {own : String} {pc : Nat} {ls : LL} {st : List Value} {M : Mem}
def Fr (p : Program) (l : Launch) (e : Env) (R : Room) (s : State) (m : MethodId) (args : Array Value) (below : List Frame) (meth : Method) (c : Code) (G : Glob) (cells slots : Nat) (Qf : State → Prop) (nL : Nat) (pc : Nat) (ls : LL) (st : List Value) (M : Mem) : Prop :=
  ∀ (H : Heap) (locs : List Loc) (la : Array Slot), va_P (gD G) vwCl (wso G M) H → va_S (AG G) s.heap H locs → LH la nL ls → W p l e R s m args below meth c H locs cells slots Qf (F0 m pc la st)
def CxB (p : Program) (s : State) (m : MethodId) (args : Array Value) (c : Code) (G : Glob) (cc : ByteArray) (nL : Nat) (own : String) : Prop :=
  p.tables.exec = Jvm.exec ∧ c.code = cc ∧ c.maxLocals = nL ∧ s.vm.findClass own = some m.cls ∧ (∀ w ∈ gtbl, w.before args s = true) ∧ va_K (gD G) vwCl (tso G) s ∧ GI G
theorem fr_1 {n : Nat} {st' : List Value} (h : ∀ (H : Heap) (locs : List Loc) (la : Array Slot), LH la nL ls → W p l e R s m args below meth c H locs cells slots Qf (F0 m n la st') → W p l e R s m args below meth c H locs cells slots Qf (F0 m pc la st)) (K : Fr p l e R s m args below meth c G cells slots Qf nL n ls st' M) : Fr p l e R s m args below meth c G cells slots Qf nL pc ls st M :=
  fun H locs la hP hS hL => h H locs la hL (K H locs la hP hS hL)
theorem fr_iconst (X : CxB p s m args c G cc nL own) {n : Int} {v : Int32} (hd : decode cc pc = .ok (.iconst n, 1)) (hv : Int32.ofInt n = v) (K : Fr p l e R s m args below meth c G cells slots Qf nL (pc + 1) ls (.int v :: st) M) : Fr p l e R s m args below meth c G cells slots Qf nL pc ls st M :=
  fr_1 (fun _ _ _ _ k => lv_iconst X.1 X.2.1 hd hv k) K
theorem fr_bipush (X : CxB p s m args c G cc nL own) {n : Int} {v : Int32} (hd : decode cc pc = .ok (.bipush n, 2)) (hv : (Int8.ofInt n).toInt32 = v) (K : Fr p l e R s m args below meth c G cells slots Qf nL (pc + 2) ls (.int v :: st) M) : Fr p l e R s m args below meth c G cells slots Qf nL pc ls st M :=
  fr_1 (fun _ _ _ _ k => lv_bipush X.1 X.2.1 hd hv k) K
theorem fr_sipush (X : CxB p s m args c G cc nL own) {n : Int} {v : Int32} (hd : decode cc pc = .ok (.sipush n, 3)) (hv : (Int16.ofInt n).toInt32 = v) (K : Fr p l e R s m args below meth c G cells slots Qf nL (pc + 3) ls (.int v :: st) M) : Fr p l e R s m args below meth c G cells slots Qf nL pc ls st M :=
  fr_1 (fun _ _ _ _ k => lv_sipush X.1 X.2.1 hd hv k) K
theorem fr_lconst (X : CxB p s m args c G cc nL own) {n : Fin 2} {v : Int64} (hd : decode cc pc = .ok (.lconst n, 1)) (hv : Int64.ofNat (n : Nat) = v) (K : Fr p l e R s m args below meth c G cells slots Qf nL (pc + 1) ls (.long v :: st) M) : Fr p l e R s m args below meth c G cells slots Qf nL pc ls st M :=
  fr_1 (fun _ _ _ _ k => lv_lconst X.1 X.2.1 hd hv k) K
theorem fr_ldc (X : CxB p s m args c G cc nL own) {i : Nat} {v : Int32} (hc : Cond.constant own i v ∈ gtbl) (hd : decode cc pc = .ok (.ldc i, 2)) (K : Fr p l e R s m args below meth c G cells slots Qf nL (pc + 2) ls (.int v :: st) M) : Fr p l e R s m args below meth c G cells slots Qf nL pc ls st M :=
  fr_1 (fun _ _ _ _ k => lv_ldc X.1 X.2.1 X.2.2.2.1 (X.2.2.2.2.1 _ hc) hd k) K
theorem fr_ldc2 (X : CxB p s m args c G cc nL own) {i : Nat} {v : Int64} (hc : Cond.constantLong own i v ∈ gtbl) (hd : decode cc pc = .ok (.ldc2_w i, 3)) (K : Fr p l e R s m args below meth c G cells slots Qf nL (pc + 3) ls (.long v :: st) M) : Fr p l e R s m args below meth c G cells slots Qf nL pc ls st M :=
  fr_1 (fun _ _ _ _ k => lv_ldc2 X.1 X.2.1 X.2.2.2.1 (X.2.2.2.2.1 _ hc) hd k) K
theorem fr_iload_n (X : CxB p s m args c G cc nL own) {k : Fin 4} {i : Nat} {x : Int32} (hd : decode cc pc = .ok (.iload_n k, 1)) (hi : (k : Nat) = i) (hl : ls[i]? = some (some (.int x))) (K : Fr p l e R s m args below meth c G cells slots Qf nL (pc + 1) ls (.int x :: st) M) : Fr p l e R s m args below meth c G cells slots Qf nL pc ls st M :=
  fr_1 (fun _ _ _ hL k => lv_iload_n X.1 X.2.1 hd hi (hL.2.2 _ _ hl) k) K
theorem fr_iload (X : CxB p s m args c G cc nL own) {i : Nat} {x : Int32} (hd : decode cc pc = .ok (.iload i, 2)) (hl : ls[i]? = some (some (.int x))) (K : Fr p l e R s m args below meth c G cells slots Qf nL (pc + 2) ls (.int x :: st) M) : Fr p l e R s m args below meth c G cells slots Qf nL pc ls st M :=
  fr_1 (fun _ _ _ hL k => lv_iload X.1 X.2.1 hd (hL.2.2 _ _ hl) k) K
theorem fr_lload_n (X : CxB p s m args c G cc nL own) {k : Fin 4} {i : Nat} {x : Int64} (hd : decode cc pc = .ok (.lload_n k, 1)) (hi : (k : Nat) = i) (hl : ls[i]? = some (some (.long x))) (K : Fr p l e R s m args below meth c G cells slots Qf nL (pc + 1) ls (.long x :: st) M) : Fr p l e R s m args below meth c G cells slots Qf nL pc ls st M :=
  fr_1 (fun _ _ _ hL k => lv_lload_n X.1 X.2.1 hd hi (hL.2.2 _ _ hl) k) K
theorem fr_lload (X : CxB p s m args c G cc nL own) {i : Nat} {x : Int64} (hd : decode cc pc = .ok (.lload i, 2)) (hl : ls[i]? = some (some (.long x))) (K : Fr p l e R s m args below meth c G cells slots Qf nL (pc + 2) ls (.long x :: st) M) : Fr p l e R s m args below meth c G cells slots Qf nL pc ls st M :=
  fr_1 (fun _ _ _ hL k => lv_lload X.1 X.2.1 hd (hL.2.2 _ _ hl) k) K
theorem fr_aload_n (X : CxB p s m args c G cc nL own) {k : Fin 4} {i : Nat} {x : Nat} (hd : decode cc pc = .ok (.aload_n k, 1)) (hi : (k : Nat) = i) (hl : ls[i]? = some (some (.ref x))) (K : Fr p l e R s m args below meth c G cells slots Qf nL (pc + 1) ls (.ref x :: st) M) : Fr p l e R s m args below meth c G cells slots Qf nL pc ls st M :=
  fr_1 (fun _ _ _ hL k => lv_aload_n X.1 X.2.1 hd hi (hL.2.2 _ _ hl) k) K
theorem fr_aload (X : CxB p s m args c G cc nL own) {i : Nat} {x : Nat} (hd : decode cc pc = .ok (.aload i, 2)) (hl : ls[i]? = some (some (.ref x))) (K : Fr p l e R s m args below meth c G cells slots Qf nL (pc + 2) ls (.ref x :: st) M) : Fr p l e R s m args below meth c G cells slots Qf nL pc ls st M :=
  fr_1 (fun _ _ _ hL k => lv_aload X.1 X.2.1 hd (hL.2.2 _ _ hl) k) K
/-- a store's step of the machine, over the kit's row -/
theorem fr_st1 {i n : Nat} {v : Value} {ls' : LL} (h : ∀ (H : Heap) (locs : List Loc) (la : Array Slot), LH la nL ls → (∀ la' : Array Slot, LH la' nL ls' → W p l e R s m args below meth c H locs cells slots Qf (F0 m n la' st)) → W p l e R s m args below meth c H locs cells slots Qf (F0 m pc la (v :: st))) (K : Fr p l e R s m args below meth c G cells slots Qf nL n ls' st M) : Fr p l e R s m args below meth c G cells slots Qf nL pc ls (v :: st) M :=
  fun H locs la hP hS hL => h H locs la hL fun la' hL' => K H locs la' hP hS hL'
theorem LH_of {la : Array Slot} {n i : Nat} {ls ls' : LL} {v : Value} (h : lv_has la n ((i, v) :: (lass ls).filter (fun q => !(q.1 == i) && !(q.1 + 1 == i && q.2.category == 2)))) (ho : okA ls i = true) (hs : ls.set i (some v) = ls') : LH la n ls' := by
  subst hs
  obtain ⟨h2, h3, h4⟩ := h
  refine ⟨h2, h3, fun j w hj => ?_⟩
  by_cases hji : j = i
  · subst hji
    rw [List.getElem?_set] at hj
    simp only [if_true] at hj
    split at hj
    · cases hj
      exact h4 (j, v) List.mem_cons_self
    · cases hj
  · rw [List.getElem?_set_ne (Ne.symm hji)] at hj
    refine h4 (j, w) (List.mem_cons_of_mem _ (List.mem_filter.mpr ⟨lass_mem.mpr hj, ?_⟩))
    have hn : ¬ (j + 1 = i ∧ w.category = 2) := fun q => by have := okA_not ho hj q.1; omega
    simp only [Bool.and_eq_true, Bool.not_eq_true', Bool.and_eq_false_iff, beq_eq_false_iff_ne, ne_eq]
    refine ⟨hji, ?_⟩
    by_cases h5 : j + 1 = i
    · exact Or.inr fun q => hn ⟨h5, q⟩
    · exact Or.inl h5
theorem LH_of2 {la : Array Slot} {n i : Nat} {ls ls' : LL} {v : Value} (h : lv_has la n ((i, v) :: (lass ls).filter (fun q => !(q.1 == i) && (!(q.1 == i + 1) && !(q.1 + 1 == i && q.2.category == 2))))) (ho : okA ls i = true) (hs : (ls.set i (some v)).set (i + 1) none = ls') : LH la n ls' := by
  subst hs
  obtain ⟨h2, h3, h4⟩ := h
  refine ⟨h2, h3, fun j w hj => ?_⟩
  by_cases hj1 : j = i + 1
  · subst hj1
    rw [List.getElem?_set] at hj
    simp only [if_true] at hj
    split at hj <;> cases hj
  · rw [List.getElem?_set_ne (Ne.symm hj1)] at hj
    by_cases hji : j = i
    · subst hji
      rw [List.getElem?_set] at hj
      simp only [if_true] at hj
      split at hj
      · cases hj
        exact h4 (j, v) List.mem_cons_self
      · cases hj
    · rw [List.getElem?_set_ne (Ne.symm hji)] at hj
      refine h4 (j, w) (List.mem_cons_of_mem _ (List.mem_filter.mpr ⟨lass_mem.mpr hj, ?_⟩))
      have hn : ¬ (j + 1 = i ∧ w.category = 2) := fun q => by have := okA_not ho hj q.1; omega
      simp only [Bool.and_eq_true, Bool.not_eq_true', Bool.and_eq_false_iff, beq_eq_false_iff_ne, ne_eq]
      refine ⟨hji, hj1, ?_⟩
      by_cases h5 : j + 1 = i
      · exact Or.inr fun q => hn ⟨h5, q⟩
      · exact Or.inl h5
theorem fr_istore_n (X : CxB p s m args c G cc nL own) {k : Fin 4} {i : Nat} {x : Int32} {ls' : LL} (hd : decode cc pc = .ok (.istore_n k, 1)) (hi : (k : Nat) = i) (hn : i < nL) (ho : okA ls i = true) (hs : ls.set i (some (.int x)) = ls') (K : Fr p l e R s m args below meth c G cells slots Qf nL (pc + 1) ls' st M) : Fr p l e R s m args below meth c G cells slots Qf nL pc ls (.int x :: st) M :=
  fr_st1 (i := i) (fun _ _ _ hL k => lv_istore_n X.1 X.2.1 hd hi hL.has hn rfl (fun la' h => k la' (LH_of h ho hs))) K
theorem fr_istore (X : CxB p s m args c G cc nL own) {i : Nat} {x : Int32} {ls' : LL} (hd : decode cc pc = .ok (.istore i, 2)) (hn : i < nL) (ho : okA ls i = true) (hs : ls.set i (some (.int x)) = ls') (K : Fr p l e R s m args below meth c G cells slots Qf nL (pc + 2) ls' st M) : Fr p l e R s m args below meth c G cells slots Qf nL pc ls (.int x :: st) M :=
  fr_st1 (i := i) (fun _ _ _ hL k => lv_istore X.1 X.2.1 hd hL.has hn rfl (fun la' h => k la' (LH_of h ho hs))) K
theorem fr_lstore_n (X : CxB p s m args c G cc nL own) {k : Fin 4} {i : Nat} {x : Int64} {ls' : LL} (hd : decode cc pc = .ok (.lstore_n k, 1)) (hi : (k : Nat) = i) (hn : i + 1 < nL) (ho : okA ls i = true) (hs : (ls.set i (some (.long x))).set (i + 1) none = ls') (K : Fr p l e R s m args below meth c G cells slots Qf nL (pc + 1) ls' st M) : Fr p l e R s m args below meth c G cells slots Qf nL pc ls (.long x :: st) M :=
  fr_st1 (i := i) (fun _ _ _ hL k => lv_lstore_n X.1 X.2.1 hd hi hL.has hn rfl (fun la' h => k la' (LH_of2 h ho hs))) K
theorem fr_lstore (X : CxB p s m args c G cc nL own) {i : Nat} {x : Int64} {ls' : LL} (hd : decode cc pc = .ok (.lstore i, 2)) (hn : i + 1 < nL) (ho : okA ls i = true) (hs : (ls.set i (some (.long x))).set (i + 1) none = ls') (K : Fr p l e R s m args below meth c G cells slots Qf nL (pc + 2) ls' st M) : Fr p l e R s m args below meth c G cells slots Qf nL pc ls (.long x :: st) M :=
  fr_st1 (i := i) (fun _ _ _ hL k => lv_lstore X.1 X.2.1 hd hL.has hn rfl (fun la' h => k la' (LH_of2 h ho hs))) K
theorem fr_astore_n (X : CxB p s m args c G cc nL own) {k : Fin 4} {i : Nat} {x : Nat} {ls' : LL} (hd : decode cc pc = .ok (.astore_n k, 1)) (hi : (k : Nat) = i) (hn : i < nL) (ho : okA ls i = true) (hs : ls.set i (some (.ref x)) = ls') (K : Fr p l e R s m args below meth c G cells slots Qf nL (pc + 1) ls' st M) : Fr p l e R s m args below meth c G cells slots Qf nL pc ls (.ref x :: st) M :=
  fr_st1 (i := i) (fun _ _ _ hL k => lv_astore_n X.1 X.2.1 hd hi hL.has hn rfl (fun la' h => k la' (LH_of h ho hs))) K
theorem fr_astore (X : CxB p s m args c G cc nL own) {i : Nat} {x : Nat} {ls' : LL} (hd : decode cc pc = .ok (.astore i, 2)) (hn : i < nL) (ho : okA ls i = true) (hs : ls.set i (some (.ref x)) = ls') (K : Fr p l e R s m args below meth c G cells slots Qf nL (pc + 2) ls' st M) : Fr p l e R s m args below meth c G cells slots Qf nL pc ls (.ref x :: st) M :=
  fr_st1 (i := i) (fun _ _ _ hL k => lv_astore X.1 X.2.1 hd hL.has hn rfl (fun la' h => k la' (LH_of h ho hs))) K
theorem fr_iinc (X : CxB p s m args c G cc nL own) {i : Nat} {n : Int} {x v : Int32} {ls' : LL} (hd : decode cc pc = .ok (.iinc i n, 3)) (hl : ls[i]? = some (some (.int x))) (hv : x + Int32.ofInt n = v) (hn : i < nL) (ho : okA ls i = true) (hs : ls.set i (some (.int v)) = ls') (K : Fr p l e R s m args below meth c G cells slots Qf nL (pc + 3) ls' st M) : Fr p l e R s m args below meth c G cells slots Qf nL pc ls st M := by
  intro H locs la hP hS hL
  obtain ⟨k, hk⟩ := List.getElem?_of_mem (lass_mem (q := (i, .int x)).mpr hl)
  exact lv_iinc X.1 X.2.1 hd hL.has hk hv hn rfl (fun la' h => K H locs la' hP hS (LH_of h ho hs))
theorem fr_mask (bs : List Bool) {ls' : LL} (hs : maskL bs ls = ls') (K : Fr p l e R s m args below meth c G cells slots Qf nL pc ls' st M) : Fr p l e R s m args below meth c G cells slots Qf nL pc ls st M := by
  subst hs
  exact fun H locs la hP hS hL => K H locs la hP hS (hL.mask bs)
end FR
