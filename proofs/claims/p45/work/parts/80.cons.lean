/-! constructors: a frame over a world that grows; what a constructor promises -/
section CONS
variable {p : Program} {l : Launch} {e : Env} {R : Room} {s : State} {m : MethodId} {args : Array Value} {below : List Frame} {meth : Method} {c : Code} {cells slots : Nat} {Qf : State → Prop}
variable {G : Glob} {nL : Nat} {cc : ByteArray} {own : String} {pc : Nat} {ls : LL} {st : List Value} {A : Nat → Prop} {ws : va_W}
/-- that the classes of arrays of references are there -/
def XO (U : State) : Prop := (Cond.arrayOver (.object "DrawerGloves$Deeds")).before #[] U = true ∧ (Cond.arrayOver (.object "DrawerGloves$Glove")).before #[] U = true ∧ (Cond.arrayOver (.array .int)).before #[] U = true
theorem aoA_moved {t : FieldType} {u U : State} (hvm : u.vm.Alike U.vm) (h : (Cond.arrayOver (.array t)).before #[] u = true) : (Cond.arrayOver (.array t)).before #[] U = true := by
  obtain ⟨comp, c, k, h1, h2, h3, h4, h5⟩ := arrayOverA_spec h
  obtain ⟨k', hk', he⟩ := hvm.2.2 _ _ h3
  have b1 := va_idx_bare U.vm comp
  have b0 := va_idx_bare u.vm comp
  first | rw [hvm.bare_eq] at b0 | rw [← hvm.bare_eq] at b0
  have hi : (U.vm.classes.findIdx? fun (x : Class) => match x.kind with | .array component _ => component == comp | _ => false) = some c := b1.symm.trans (b0.trans h2)
  have hkind : k'.kind = .array comp (.array t) := by rw [he]; exact h4
  have f1 : U.vm.findClass (FieldType.array t).toString = some comp := by rw [hvm.findClass]; exact h1
  have f2 : U.vm.findClass ("[" ++ (FieldType.array t).toString) = some c := by rw [hvm.findClass]; exact h5
  unfold Cond.before Cond.holds
  simp only [Cond.value]
  rw [f1, Option.bind_some]
  refine (congrArg (fun o : Option Nat => (o.bind (fun c => (U.vm.classes[c]?).map fun (k : Class) => match k.kind with | .array _ ty => decide (ty = FieldType.array t) && decide (U.vm.findClass ("[" ++ (FieldType.array t).toString) = some c) | _ => false) == some true)) hi).trans ?_
  simp [hk', hkind, f2]
theorem XO.moved {u U : State} (hvm : u.vm.Alike U.vm) (h : XO u) : XO U := ⟨va_AO.moved (C := "DrawerGloves$Deeds") hvm h.1, va_AO.moved (C := "DrawerGloves$Glove") hvm h.2.1, aoA_moved hvm h.2.2⟩
def Cf (p : Program) (l : Launch) (e : Env) (R : Room) (s : State) (m : MethodId) (args : Array Value) (below : List Frame) (meth : Method) (c : Code) (G : Glob) (A : Nat → Prop) (Qf : State → Prop) (nL : Nat) (cells slots : Nat) (pc : Nat) (ls : LL) (st : List Value) (ws : va_W) : Prop :=
  ∀ (H : Heap) (locs : List Loc) (la : Array Slot), va_P (gD G) vwCl ws H → va_D A ws → va_S A s.heap H locs → LH la nL ls → W p l e R s m args below meth c H locs cells slots Qf (F0 m pc la st)
def CxC (p : Program) (s : State) (m : MethodId) (args : Array Value) (c : Code) (G : Glob) (cc : ByteArray) (nL : Nat) (own : String) (A : Nat → Prop) : Prop :=
  p.tables.exec = Jvm.exec ∧ c.code = cc ∧ c.maxLocals = nL ∧ s.vm.findClass own = some m.cls ∧ (∀ w ∈ gtbl, w.before args s = true) ∧ va_K (gD G) vwCl (tso G) s ∧ XO s ∧ ∀ q, s.heap.size ≤ q → A q
theorem cf_1 {n : Nat} {st' : List Value} (h : ∀ (H : Heap) (locs : List Loc) (la : Array Slot), LH la nL ls → W p l e R s m args below meth c H locs cells slots Qf (F0 m n la st') → W p l e R s m args below meth c H locs cells slots Qf (F0 m pc la st)) (K : Cf p l e R s m args below meth c G A Qf nL cells slots n ls st' ws) : Cf p l e R s m args below meth c G A Qf nL cells slots pc ls st ws :=
  fun H locs la hP hD hS hL => h H locs la hL (K H locs la hP hD hS hL)
theorem cf_iconst (X : CxC p s m args c G cc nL own A) {n : Int} {v : Int32} (hd : decode cc pc = .ok (.iconst n, 1)) (hv : Int32.ofInt n = v) (K : Cf p l e R s m args below meth c G A Qf nL cells slots (pc + 1) ls (.int v :: st) ws) : Cf p l e R s m args below meth c G A Qf nL cells slots pc ls st ws :=
  cf_1 (fun _ _ _ _ k => lv_iconst X.1 X.2.1 hd hv k) K
theorem cf_bipush (X : CxC p s m args c G cc nL own A) {n : Int} {v : Int32} (hd : decode cc pc = .ok (.bipush n, 2)) (hv : (Int8.ofInt n).toInt32 = v) (K : Cf p l e R s m args below meth c G A Qf nL cells slots (pc + 2) ls (.int v :: st) ws) : Cf p l e R s m args below meth c G A Qf nL cells slots pc ls st ws :=
  cf_1 (fun _ _ _ _ k => lv_bipush X.1 X.2.1 hd hv k) K
theorem cf_sipush (X : CxC p s m args c G cc nL own A) {n : Int} {v : Int32} (hd : decode cc pc = .ok (.sipush n, 3)) (hv : (Int16.ofInt n).toInt32 = v) (K : Cf p l e R s m args below meth c G A Qf nL cells slots (pc + 3) ls (.int v :: st) ws) : Cf p l e R s m args below meth c G A Qf nL cells slots pc ls st ws :=
  cf_1 (fun _ _ _ _ k => lv_sipush X.1 X.2.1 hd hv k) K
theorem cf_lconst (X : CxC p s m args c G cc nL own A) {n : Fin 2} {v : Int64} (hd : decode cc pc = .ok (.lconst n, 1)) (hv : Int64.ofNat (n : Nat) = v) (K : Cf p l e R s m args below meth c G A Qf nL cells slots (pc + 1) ls (.long v :: st) ws) : Cf p l e R s m args below meth c G A Qf nL cells slots pc ls st ws :=
  cf_1 (fun _ _ _ _ k => lv_lconst X.1 X.2.1 hd hv k) K
theorem cf_iload_n (X : CxC p s m args c G cc nL own A) {k : Fin 4} {i : Nat} {x : Int32} (hd : decode cc pc = .ok (.iload_n k, 1)) (hi : (k : Nat) = i) (hl : ls[i]? = some (some (.int x))) (K : Cf p l e R s m args below meth c G A Qf nL cells slots (pc + 1) ls (.int x :: st) ws) : Cf p l e R s m args below meth c G A Qf nL cells slots pc ls st ws :=
  cf_1 (fun _ _ _ hL k => lv_iload_n X.1 X.2.1 hd hi (hL.2.2 _ _ hl) k) K
theorem cf_iload (X : CxC p s m args c G cc nL own A) {i : Nat} {x : Int32} (hd : decode cc pc = .ok (.iload i, 2)) (hl : ls[i]? = some (some (.int x))) (K : Cf p l e R s m args below meth c G A Qf nL cells slots (pc + 2) ls (.int x :: st) ws) : Cf p l e R s m args below meth c G A Qf nL cells slots pc ls st ws :=
  cf_1 (fun _ _ _ hL k => lv_iload X.1 X.2.1 hd (hL.2.2 _ _ hl) k) K
theorem cf_aload_n (X : CxC p s m args c G cc nL own A) {k : Fin 4} {i : Nat} {x : Nat} (hd : decode cc pc = .ok (.aload_n k, 1)) (hi : (k : Nat) = i) (hl : ls[i]? = some (some (.ref x))) (K : Cf p l e R s m args below meth c G A Qf nL cells slots (pc + 1) ls (.ref x :: st) ws) : Cf p l e R s m args below meth c G A Qf nL cells slots pc ls st ws :=
  cf_1 (fun _ _ _ hL k => lv_aload_n X.1 X.2.1 hd hi (hL.2.2 _ _ hl) k) K
theorem cf_st1 {i n : Nat} {v : Value} {ls' : LL} (h : ∀ (H : Heap) (locs : List Loc) (la : Array Slot), LH la nL ls → (∀ la' : Array Slot, LH la' nL ls' → W p l e R s m args below meth c H locs cells slots Qf (F0 m n la' st)) → W p l e R s m args below meth c H locs cells slots Qf (F0 m pc la (v :: st))) (K : Cf p l e R s m args below meth c G A Qf nL cells slots n ls' st ws) : Cf p l e R s m args below meth c G A Qf nL cells slots pc ls (v :: st) ws :=
  fun H locs la hP hD hS hL => h H locs la hL fun la' hL' => K H locs la' hP hD hS hL'
theorem cf_istore_n (X : CxC p s m args c G cc nL own A) {k : Fin 4} {i : Nat} {x : Int32} {ls' : LL} (hd : decode cc pc = .ok (.istore_n k, 1)) (hi : (k : Nat) = i) (hn : i < nL) (ho : okA ls i = true) (hs : ls.set i (some (.int x)) = ls') (K : Cf p l e R s m args below meth c G A Qf nL cells slots (pc + 1) ls' st ws) : Cf p l e R s m args below meth c G A Qf nL cells slots pc ls (.int x :: st) ws :=
  cf_st1 (i := i) (fun _ _ _ hL k => lv_istore_n X.1 X.2.1 hd hi hL.has hn rfl (fun la' h => k la' (LH_of h ho hs))) K
theorem cf_istore (X : CxC p s m args c G cc nL own A) {i : Nat} {x : Int32} {ls' : LL} (hd : decode cc pc = .ok (.istore i, 2)) (hn : i < nL) (ho : okA ls i = true) (hs : ls.set i (some (.int x)) = ls') (K : Cf p l e R s m args below meth c G A Qf nL cells slots (pc + 2) ls' st ws) : Cf p l e R s m args below meth c G A Qf nL cells slots pc ls (.int x :: st) ws :=
  cf_st1 (i := i) (fun _ _ _ hL k => lv_istore X.1 X.2.1 hd hL.has hn rfl (fun la' h => k la' (LH_of h ho hs))) K
theorem cf_astore_n (X : CxC p s m args c G cc nL own A) {k : Fin 4} {i : Nat} {x : Nat} {ls' : LL} (hd : decode cc pc = .ok (.astore_n k, 1)) (hi : (k : Nat) = i) (hn : i < nL) (ho : okA ls i = true) (hs : ls.set i (some (.ref x)) = ls') (K : Cf p l e R s m args below meth c G A Qf nL cells slots (pc + 1) ls' st ws) : Cf p l e R s m args below meth c G A Qf nL cells slots pc ls (.ref x :: st) ws :=
  cf_st1 (i := i) (fun _ _ _ hL k => lv_astore_n X.1 X.2.1 hd hi hL.has hn rfl (fun la' h => k la' (LH_of h ho hs))) K
theorem cf_iinc (X : CxC p s m args c G cc nL own A) {i : Nat} {n : Int} {x v : Int32} {ls' : LL} (hd : decode cc pc = .ok (.iinc i n, 3)) (hl : ls[i]? = some (some (.int x))) (hv : x + Int32.ofInt n = v) (hn : i < nL) (ho : okA ls i = true) (hs : ls.set i (some (.int v)) = ls') (K : Cf p l e R s m args below meth c G A Qf nL cells slots (pc + 3) ls' st ws) : Cf p l e R s m args below meth c G A Qf nL cells slots pc ls st ws := by
  intro H locs la hP hD hS hL
  obtain ⟨k, hk⟩ := List.getElem?_of_mem (lass_mem (q := (i, .int x)).mpr hl)
  exact lv_iinc X.1 X.2.1 hd hL.has hk hv hn rfl (fun la' h => K H locs la' hP hD hS (LH_of h ho hs))
theorem cf_goto (X : CxC p s m args c G cc nL own A) {off : Int} {tgt : Nat} (hd : decode cc pc = .ok (.goto off, 3)) (ht : (pc : Int) + off = (tgt : Int)) (K : Cf p l e R s m args below meth c G A Qf nL cells slots tgt ls st ws) : Cf p l e R s m args below meth c G A Qf nL cells slots pc ls st ws :=
  cf_1 (fun _ _ _ _ k => lv_goto X.1 X.2.1 hd ht k) K
theorem cf_dup (X : CxC p s m args c G cc nL own A) {v : Value} (hd : decode cc pc = .ok (.dup, 1)) (hv : v.category = 1) (K : Cf p l e R s m args below meth c G A Qf nL cells slots (pc + 1) ls (v :: v :: st) ws) : Cf p l e R s m args below meth c G A Qf nL cells slots pc ls (v :: st) ws :=
  cf_1 (fun _ _ _ _ k => lv_dup X.1 X.2.1 hd hv k) K
theorem cf_imul (X : CxC p s m args c G cc nL own A) {x y : Int32} (hd : decode cc pc = .ok (.imul, 1)) (K : Cf p l e R s m args below meth c G A Qf nL cells slots (pc + 1) ls (.int (x * y) :: st) ws) : Cf p l e R s m args below meth c G A Qf nL cells slots pc ls (.int y :: .int x :: st) ws :=
  cf_1 (fun _ _ _ _ k => lv_imul X.1 X.2.1 hd k) K
theorem cf_iadd (X : CxC p s m args c G cc nL own A) {x y : Int32} (hd : decode cc pc = .ok (.iadd, 1)) (K : Cf p l e R s m args below meth c G A Qf nL cells slots (pc + 1) ls (.int (x + y) :: st) ws) : Cf p l e R s m args below meth c G A Qf nL cells slots pc ls (.int y :: .int x :: st) ws :=
  cf_1 (fun _ _ _ _ k => lv_iadd X.1 X.2.1 hd k) K
theorem cf_idiv (X : CxC p s m args c G cc nL own A) {x y : Int32} (hd : decode cc pc = .ok (.idiv, 1)) (hne : ¬ y = 0) (K : Cf p l e R s m args below meth c G A Qf nL cells slots (pc + 1) ls (.int (x / y) :: st) ws) : Cf p l e R s m args below meth c G A Qf nL cells slots pc ls (.int y :: .int x :: st) ws :=
  cf_1 (fun _ _ _ _ k => lv_idiv X.1 X.2.1 hd hne k) K
theorem cf_irem (X : CxC p s m args c G cc nL own A) {x y : Int32} (hd : decode cc pc = .ok (.irem, 1)) (hne : ¬ y = 0) (K : Cf p l e R s m args below meth c G A Qf nL cells slots (pc + 1) ls (.int (x - x / y * y) :: st) ws) : Cf p l e R s m args below meth c G A Qf nL cells slots pc ls (.int y :: .int x :: st) ws :=
  cf_1 (fun _ _ _ _ k => lv_irem X.1 X.2.1 hd hne k) K
theorem cf_icmp_ge (X : CxC p s m args c G cc nL own A) {x y : Int32} {off : Int} {tgt : Nat} (hd : decode cc pc = .ok (.if_icmp .ge off, 3)) (ht : (pc : Int) + off = (tgt : Int)) (KT : ¬ x < y → Cf p l e R s m args below meth c G A Qf nL cells slots tgt ls st ws) (KF : x < y → Cf p l e R s m args below meth c G A Qf nL cells slots (pc + 3) ls st ws) : Cf p l e R s m args below meth c G A Qf nL cells slots pc ls (.int y :: .int x :: st) ws :=
  fun H locs la hP hD hS hL => lv_icmp_ge X.1 X.2.1 hd ht (fun h => KT (Int32.not_lt.mpr h) H locs la hP hD hS hL) (fun h => KF (Int32.not_le.mp h) H locs la hP hD hS hL)
theorem cf_max (X : CxC p s m args c G cc nL own A) {idx : Nat} {x y v : Int32} (hl : Cond.methodLink own idx Lib.Math.max.name ∈ gtbl) (hR : 1 ≤ R.frames ∧ 40 ≤ R.locals ∧ cells ≤ R.cells ∧ slots ≤ R.slots) (hv : (if x < y then y else x) = v) (hst : (st.map fun v => v.category).sum ≤ 20) (hd : decode cc pc = .ok (.invokestatic idx, 3)) (K : Cf p l e R s m args below meth c G A Qf nL cells slots (pc + 3) ls (.int v :: st) ws) : Cf p l e R s m args below meth c G A Qf nL cells slots pc ls (.int y :: .int x :: st) ws := by
  subst hv
  exact cf_1 (fun _ _ _ hL k => va_mmax X.1 X.2.1 (X.2.2.1.trans hL.1.symm) X.2.2.2.1 (X.2.2.2.2.1 _ hl) (X.2.2.2.2.1 _ mw_max.1) (X.2.2.2.2.1 _ mw_max.2.1) (X.2.2.2.2.1 _ mw_max.2.2) hR.1 (by omega) hR.2.2.1 hR.2.2.2 hd k) K
theorem cf_obj (X : CxC p s m args c G cc nL own A) {idx a : Nat} (hl : Cond.methodLink own idx Lib.objectInit ∈ gtbl) (hi : Cond.instanceMethod Lib.objectInit ∈ gtbl ∧ Cond.code Lib.objectInit ⟨#[0xb1]⟩ 1 none ∈ gtbl) (hd : decode cc pc = .ok (.invokespecial idx, 3)) (hR : 1 ≤ R.frames ∧ 40 ≤ R.locals) (hst : (st.map fun v => v.category).sum ≤ 8) (K : Cf p l e R s m args below meth c G A Qf nL cells slots (pc + 3) ls st ws) : Cf p l e R s m args below meth c G A Qf nL cells slots pc ls (.ref a :: st) ws :=
  cf_1 (fun _ _ la hL k => W.objInit X.1 X.2.1 X.2.2.2.1 (X.2.2.2.2.1 _ hl) (X.2.2.2.2.1 _ hi.1) (X.2.2.2.2.1 _ hi.2) rfl (hL.1.trans X.2.2.1.symm) rfl hd hR.1 (by show 2 * (F0 m pc la (.ref a :: st)).monitorRoom + _ + 12 ≤ _; have : (F0 m pc la (.ref a :: st)).monitorRoom = 0 := rfl; omega) k) K
/-- a getfield of an object of the world -/
theorem cf_get (X : CxC p s m args c G cc nL own A) {a ci k t idx q0 : Nat} {fs : List Value} {v : Value} {r nm ds : String} (hd : decode cc pc = .ok (.getfield idx, 3)) (hf : FB ci k t r nm ds) (hl : Cond.fieldLink own idx r nm ds ∈ gtbl) (hw : ws[q0]? = some (a, .inr (ci, fs))) (hv : fs[k]? = some v) (K : Cf p l e R s m args below meth c G A Qf nL cells slots (pc + 3) ls (v :: st) ws) : Cf p l e R s m args below meth c G A Qf nL cells slots pc ls (.ref a :: st) ws := by
  obtain ⟨hx, hb, hml, hown, hts, hK, hi⟩ := X
  obtain ⟨C, T, N, h1, h2, h3, rfl, rfl, rfl, h4, h5⟩ := hf
  intro H locs la hP hD hS hL
  exact va_get hx hb hts h2 hown hK hP q0 hw h1 k h3 (hts _ hl) (fun x h => h) hv hd (K H locs la hP hD hS hL)
/-- what a store needs of the tables -/
def FQ (ci k : Nat) (r nm ds : String) (fin : Bool) (ty : FieldType) : Prop := ∃ (C : String) (T : u_T) (N : Nat) (ty0 : Nat → FieldType), vwCl[ci]? = some (C, T, N) ∧ (∀ w ∈ u_ws C T N, w ∈ gtbl) ∧ k < N ∧ (T k).1 = r ∧ (T k).2.1 = nm ∧ (T k).2.2.1 = ds ∧
  (∀ k, k < N → parseFieldDescriptor (T k).2.2.1 = some (ty0 k)) ∧ (∀ a, a < N → ∀ b, b < N → a ≠ b → (T a).2.1 ≠ (T b).2.1) ∧ (T k).2.2.2 = fin ∧ parseFieldDescriptor ds = some ty
theorem cf_put (X : CxC p s m args c G cc nL own A) {a ci k idx q0 : Nat} {fs : List Value} {v : Value} {ty : FieldType} {r nm ds : String} {ws' : va_W} (hd : decode cc pc = .ok (.putfield idx, 3)) (hf : FQ ci k r nm ds false ty) (hl : Cond.fieldLink own idx r nm ds ∈ gtbl) (hw : ws[q0]? = some (a, .inr (ci, fs))) (hk : k < fs.length) (hn : narrow ty v = v) (hfit : fits ty v = true) (hs : ws.set q0 (a, .inr (ci, fs.set k v)) = ws') (K : Cf p l e R s m args below meth c G A Qf nL cells slots (pc + 3) ls st ws') : Cf p l e R s m args below meth c G A Qf nL cells slots pc ls (v :: .ref a :: st) ws := by
  obtain ⟨hx, hb, hml, hown, hts, hK, hi⟩ := X
  obtain ⟨C, T, N, ty0, h1, h2, h3, rfl, rfl, rfl, h6, h7, h8, h9⟩ := hf
  subst hs
  intro H locs la hP hD hS hL
  exact va_put hx hb hts h2 ty0 h6 h7 hown hK hP hD hS q0 hw h1 k h3 (hts _ hl) (fun x h => h) h8 h9 hn hfit hk hd fun H1 locs1 hP1 hD1 hS1 => K H1 locs1 la hP1 hD1 hS1 hL
theorem cf_putF (X : CxC p s m args c G cc nL own A) {a ci k idx q0 : Nat} {fs : List Value} {v : Value} {ty : FieldType} {nm ds : String} {ws' : va_W} (hin : meth.name = "<init>") (hd : decode cc pc = .ok (.putfield idx, 3)) (hf : FQ ci k own nm ds true ty) (hl : Cond.fieldLink own idx own nm ds ∈ gtbl) (hw : ws[q0]? = some (a, .inr (ci, fs))) (hk : k < fs.length) (hn : narrow ty v = v) (hfit : fits ty v = true) (hs : ws.set q0 (a, .inr (ci, fs.set k v)) = ws') (K : Cf p l e R s m args below meth c G A Qf nL cells slots (pc + 3) ls st ws') : Cf p l e R s m args below meth c G A Qf nL cells slots pc ls (v :: .ref a :: st) ws := by
  obtain ⟨hx, hb, hml, hown, hts, hK, hi⟩ := X
  obtain ⟨C, T, N, ty0, h1, h2, h3, h4, rfl, rfl, h6, h7, h8, h9⟩ := hf
  subst hs
  intro H locs la hP hD hS hL
  exact va_putF (ref := own) hx hb hts h2 ty0 h6 h7 hown hK hP hD hS q0 hw h1 k h3 (hts _ hl) (fun x h => by rw [h4] at h; exact h) h8 hin h4 h9 hn hfit hk hd fun H1 locs1 hP1 hD1 hS1 => K H1 locs1 la hP1 hD1 hS1 hL
theorem cf_iald (X : CxC p s m args c G cc nL own A) {a n q0 : Nat} {f : Nat → Int32} {i : Int32} (hd : decode cc pc = .ok (.iaload, 1)) (hw : ws[q0]? = some (a, .inl (gc G 20, n, .inl f))) (hin : vp_in i n) (K : Cf p l e R s m args below meth c G A Qf nL cells slots (pc + 1) ls (.int (f i.toNatClampNeg) :: st) ws) : Cf p l e R s m args below meth c G A Qf nL cells slots pc ls (.int i :: .ref a :: st) ws := by
  obtain ⟨hx, hb, hml, hown, hts, hK, hi⟩ := X
  intro H locs la hP hD hS hL
  exact va_iald hx hb hK hP q0 0 hw rfl hin hd (K H locs la hP hD hS hL)
theorem cf_iast (X : CxC p s m args c G cc nL own A) {a n q0 j : Nat} {f f' : Nat → Int32} {i v : Int32} {ws' : va_W} (hd : decode cc pc = .ok (.iastore, 1)) (hw : ws[q0]? = some (a, .inl (gc G 20, n, .inl f))) (hj : i.toNatClampNeg = j) (hin : vp_in i n) (hf : upd f j v = f') (hs : ws.set q0 (a, .inl (gc G 20, n, .inl f')) = ws') (K : Cf p l e R s m args below meth c G A Qf nL cells slots (pc + 1) ls st ws') : Cf p l e R s m args below meth c G A Qf nL cells slots pc ls (.int v :: .int i :: .ref a :: st) ws := by
  obtain ⟨hx, hb, hml, hown, hts, hK, hi⟩ := X
  subst hj hf hs
  intro H locs la hP hD hS hL
  exact va_iast hx hb hK hP hD hS q0 0 hw rfl hin hd fun H1 locs1 hP1 hD1 hS1 => K H1 locs1 la hP1 hD1 hS1 hL
theorem cf_aald (X : CxC p s m args c G cc nL own A) {a n q0 t0 j y : Nat} {C : String} {cA : ClassId} {f : Nat → Option Nat} {i : Int32} (hd : decode cc pc = .ok (.aaload, 1)) (hw : ws[q0]? = some (a, .inl (cA, n, .inr (.inr (.inr (.inr f)))))) (ht : (tso G)[t0]? = some (cA, .object C)) (hj : i.toNatClampNeg = j) (hin : vp_in i n) (hy : f j = some y) (K : Cf p l e R s m args below meth c G A Qf nL cells slots (pc + 1) ls (.ref y :: st) ws) : Cf p l e R s m args below meth c G A Qf nL cells slots pc ls (.int i :: .ref a :: st) ws := by
  obtain ⟨hx, hb, hml, hown, hts, hK, hi⟩ := X
  subst hj
  intro H locs la hP hD hS hL
  exact va_aldq hx hb hK hP q0 t0 hw ht hin hd (by rw [hy]; exact K H locs la hP hD hS hL)
theorem cf_aast (X : CxC p s m args c G cc nL own A) {a n q0 t0 qk j v ci : Nat} {r : vw_C} {cA : ClassId} {vs : List Value} {f f' : Nat → Option Nat} {i : Int32} {ws' : va_W} (hd : decode cc pc = .ok (.aastore, 1)) (hw : ws[q0]? = some (a, .inl (cA, n, .inr (.inr (.inr (.inr f)))))) (ht : (tso G)[t0]? = some (cA, .object r.1)) (hv : ws[qk]? = some (v, .inr (ci, vs))) (hc : vwCl[ci]? = some r) (hj : i.toNatClampNeg = j) (hin : vp_in i n) (hf : va_up f j (some v) = f') (hs : ws.set q0 (a, .inl (cA, n, .inr (.inr (.inr (.inr f'))))) = ws') (K : Cf p l e R s m args below meth c G A Qf nL cells slots (pc + 1) ls st ws') : Cf p l e R s m args below meth c G A Qf nL cells slots pc ls (.ref v :: .int i :: .ref a :: st) ws := by
  obtain ⟨hx, hb, hml, hown, hts, hK, hi⟩ := X
  subst hj hf hs
  intro H locs la hP hD hS hL
  exact va_astq hx hb hK hP hD hS q0 t0 qk ci hw ht hv hc hin hd fun H1 locs1 hP1 hD1 hS1 => K H1 locs1 la hP1 hD1 hS1 hL
theorem tys_last {D : va_G} {tys : List (ClassId × FieldType)} {cA : ClassId} {ty : FieldType} {U : State} (h : va_K D vwCl (tys ++ [(cA, ty)]) U) : va_RA U cA ty := (h.2 tys.length (cA, ty) (by rw [List.getElem?_append_right (Nat.le_refl _), Nat.sub_self]; rfl)).2
theorem cf_newaI (X : CxC p s m args c G cc nL own A) {n : Int32} {N c' s' : Nat} (hd : decode cc pc = .ok (.newarray .int, 2)) (hn : ¬ n < 0) (hN : n.toNatClampNeg = N) (hb : N * 4 ≤ 536870912) (hc : cells + 1 = c') (hs : slots + N = s') (hR : c' ≤ R.cells ∧ s' ≤ R.slots) (K : ∀ q : Nat, Cf p l e R s m args below meth c G A Qf nL c' s' (pc + 2) ls (.ref q :: st) (ws ++ [(q, .inl (gc G 20, N, .inl (fun _ => 0)))])) : Cf p l e R s m args below meth c G A Qf nL cells slots pc ls (.int n :: st) ws := by
  obtain ⟨hx, hb', hml, hown, hts, hK, hi, hA⟩ := X
  subst hc hs
  intro H locs la hP hD hS hL
  refine va_newa (atype := .int) (ty := .int) (a0 := (N, .inl (fun _ => 0))) hx hb' (hts _ m_1_47) rfl hK hP hD hS hA (fun _ => rfl) hn hN hb hR.1 hR.2 hd fun q cA H1 hK1 hP1 hD1 hS1 => ?_
  have e : cA = gc G 20 := Option.some.inj ((show s.vm.findClass _ = some cA from tys_last hK1).symm.trans (hK.2 0 _ rfl).2)
  subst e
  exact K q H1 locs la hP1 hD1 hS1 hL
theorem cf_newq (X : CxC p s m args c G cc nL own A) {C : String} {idx t0 : Nat} {c0 : ClassId} {n : Int32} {N c' s' : Nat} (hd : decode cc pc = .ok (.anewarray idx, 3)) (hl : Cond.classLink own idx C ∈ gtbl) (hov : va_AO C s) (ht : (tso G)[t0]? = some (c0, .object C)) (hn : ¬ n < 0) (hN : n.toNatClampNeg = N) (hb : N * 4 ≤ 536870912) (hc : cells + 1 = c') (hs : slots + N = s') (hR : c' ≤ R.cells ∧ s' ≤ R.slots) (K : ∀ q : Nat, Cf p l e R s m args below meth c G A Qf nL c' s' (pc + 3) ls (.ref q :: st) (ws ++ [(q, .inl (c0, N, .inr (.inr (.inr (.inr (fun _ => none))))))])) : Cf p l e R s m args below meth c G A Qf nL cells slots pc ls (.int n :: st) ws := by
  obtain ⟨hx, hb', hml, hown, hts, hK, hi, hA⟩ := X
  subst hc hs
  intro H locs la hP hD hS hL
  refine va_newq hx hb' hown (hts _ hl) hov hK hP hD hS hA hn hN hb hR.1 hR.2 hd fun q cA H1 hK1 hP1 hD1 hS1 => ?_
  obtain ⟨_, _, -, -, -, e1⟩ := tys_last hK1
  obtain ⟨_, _, -, -, -, e2⟩ := (hK.2 t0 _ ht).2
  have e : cA = c0 := Option.some.inj (e1.symm.trans e2)
  subst e
  exact K q H1 locs la hP1 hD1 hS1 hL
/-- what a new object needs of the tables -/
def NW (ci : Nat) (C : String) (N : Nat) (fs : List Value) : Prop := ∃ (T : u_T) (ty : Nat → FieldType), vwCl[ci]? = some (C, T, N) ∧ (∀ w ∈ u_ws C T N, w ∈ gtbl) ∧ (∀ k, k < N → parseFieldDescriptor (T k).2.2.1 = some (ty k)) ∧ (∀ j, j < N → defaultValue (ty j) = vp_V fs j) ∧ Cond.instantiable C N ∈ gtbl ∧ Cond.initialized C ∈ gtbl
theorem cf_new (X : CxC p s m args c G cc nL own A) {ci N idx c' s' : Nat} {C : String} {fs : List Value} (hd : decode cc pc = .ok (.new idx, 3)) (hw : NW ci C N fs) (hl : Cond.classLink own idx C ∈ gtbl) (hc : cells + 1 = c') (hs : slots + N = s') (hR : c' ≤ R.cells ∧ s' ≤ R.slots) (K : ∀ q : Nat, Cf p l e R s m args below meth c G A Qf nL c' s' (pc + 3) ls (.ref q :: st) (ws ++ [(q, .inr (ci, fs))])) : Cf p l e R s m args below meth c G A Qf nL cells slots pc ls st ws := by
  obtain ⟨hx, hb', hml, hown, hts, hK, hi, hA⟩ := X
  obtain ⟨T, ty, h1, h2, h3, h4, h5, h6⟩ := hw
  subst hc hs
  intro H locs la hP hD hS hL
  exact va_new hx hb' hts h2 ty h3 hown (hts _ hl) (hts _ h5) (hts _ h6) hK hP hD hS hA h1 h4 hR.1 hR.2 hd fun q H1 hP1 hD1 hS1 => K q H1 locs la hP1 hD1 hS1 hL
/-- what a constructor promises: of an object that is new, it makes a world -/
def Qi (G : Glob) (h0 : Nat) (e0 : va_E) (sz : Nat) (Wf : (Nat → Nat) → va_W) : Array Value → State → Outcome → State → Prop := va_Qv (fun _ : Nat → Nat => True) (fun b t => va_P (gD G) vwCl (Wf b) t.heap ∧ va_D (va_A [(h0, e0)] sz) (Wf b)) (va_A [(h0, e0)] sz)
def Ci (G : Glob) (d : Nat) (Y : MY) (mc ms : Nat) (e0 : va_E) (As : List Value) (Wf : Nat → (Nat → Nat) → va_W) : Prop := ∀ h0 sz : Nat, Met (gl G) Y.1 (wsY Y) ({ frames := d, cells := mc, slots := ms, locals := 40 * d }) (va_Pc (.ref h0 :: As) (fun U => U.heap.size = sz ∧ va_P (gD G) vwCl [(h0, e0)] U.heap ∧ va_K (gD G) vwCl (tso G) U ∧ XO U)) (Qi G h0 e0 sz (Wf h0)) mc ms (va_A [(h0, e0)] sz)
def CMI (Y : MY) (n : Nat) : Prop := CM Y n ∧ Cond.instanceMethod Y.1 ∈ gtbl ∧ Y.1.name = "<init>" ∧ Y.2.2.2 = none
theorem cf_init (X : CxC p s m args c G cc nL own A) {a ci d n idx q0 mc ms c' s' : Nat} {Y : MY} {fs : List Value} {As st0 : List Value} {Wf : Nat → (Nat → Nat) → va_W} {isR : List Nat} {wr : va_W} (hd : decode cc pc = .ok (.invokespecial idx, 3)) (hm : CMI Y n) (hl : Cond.methodLink own idx Y.1 ∈ gtbl) (hR : d + 1 ≤ R.frames ∧ 40 * (d + 1) ≤ R.locals) (hRc : c' ≤ R.cells ∧ s' ≤ R.slots) (hc : cells + mc = c') (hs : slots + ms = s') (hn : As.length = n) (hst : (st.map fun v => v.category).sum ≤ 8) (h0 : st0 = As.reverse ++ .ref a :: st) (hG : gl G = l) (hC : Ci G d Y mc ms (.inr (ci, fs)) As Wf) (hw : ws[q0]? = some (a, .inr (ci, fs))) (hr : isR.map (fun i => ws[i]?) = wr.map some) (hnd : va_nd isR = true) (hdis : ∀ i ∈ isR, i ∉ [q0])
    (K : ∀ b : Nat → Nat, Cf p l e R s m args below meth c G A Qf nL c' s' (pc + 3) ls st (wr ++ Wf a b)) : Cf p l e R s m args below meth c G A Qf nL cells slots pc ls st0 ws := by
  subst hG hc hs
  intro H locs la hP hD hS hL
  obtain ⟨hx, hb, hml, hown, hts, hK, hxo, hA⟩ := X
  obtain ⟨hcm, hin, hnm, hrt⟩ := hm
  have cb : CallB R s args own idx Y.1 Y.2.1 Y.2.2.1 none (wsY Y) ({ frames := d, cells := mc, slots := ms, locals := 40 * d }) mc ms n := callB_of n hts (goodY hcm) (by unfold wsY; rw [hrt]) rfl rfl (hts _ hcm.2.1) (hts _ hl) hcm.2.2.1 ⟨hR.1, by have := hcm.2.2.2; have h2 := hR.2; show 8 + (Y.2.2.1 + 11) + 40 * d ≤ R.locals; omega⟩
  have hPc : va_P (gD G) vwCl [(a, .inr (ci, fs))] H := fun k q hk => by
    cases k with
    | zero => cases hk; exact hP q0 _ hw
    | succ k => cases hk
  have hCw : [q0].map (fun i => ws[i]?) = [(a, (.inr (ci, fs) : va_E))].map some := by show [ws[q0]?] = _; rw [hw]; rfl
  have hFc := va_free (wc := [(a, .inr (ci, fs))]) hD hS hA [q0] hCw
  refine va_callv (va_runI (As := As) (rest := st) (b := a) ⟨hx, hb, hml, hown, hts⟩ (hC a H.size) ⟨cb, hnm, hts _ hin⟩ ⟨fun v U g mk h => ⟨h.1, h.2.1, h.2.2.1, va_K.moved (u := U) (U := U.calling g mk v) (Vm.Alike.refl U.vm) h.2.2.2.1, XO.moved (u := U) (U := U.calling g mk v) (Vm.Alike.refl U.vm) h.2.2.2.2⟩, fun U hU hW => ⟨rfl, by rw [hU], by rw [hU]; exact hPc, va_K.moved hW.alike hK, XO.moved hW.alike hxo⟩⟩ rfl hn hL.1 h0 (lv_room hst) hd hRc) hS (fun q _ h => hFc q h) hFc ?_
  intro b t H1 locs1 ht hvm _ hB hz hk hS1
  obtain ⟨hP1, hD1⟩ := hB
  rw [ht] at hP1
  obtain ⟨hP2, hD2⟩ := va_join (wr := wr) (w1 := Wf a b) hP hD [q0] isR hCw hr hnd hdis hk hFc hP1 hD1
  exact K b H1 locs1 la hP2 hD2 hS1 hL
theorem cf_vret (X : CxC p s m args c G cc nL own A) {h0 : Nat} {e0 : va_E} {Wf : (Nat → Nat) → va_W} (b : Nat → Nat) (hd : decode cc pc = .ok (.return_, 1)) (hr : meth.sig.returnType = none) (hlk : meth.locks = false) (hA : A = va_A [(h0, e0)] s.heap.size) (hQ : Qf = MQ below (Qi G h0 e0 s.heap.size Wf) args s cells slots (va_A [(h0, e0)] s.heap.size)) (hw : Wf b = ws) : Cf p l e R s m args below meth c G A Qf nL cells slots pc ls [] ws := by
  subst hA hQ hw
  intro H locs la hP hD hS hL
  exact W.vret X.1 X.2.1 hr (fun t ht hW => ⟨⟨b, rfl, trivial, by rw [ht]; exact hP, hD⟩, hS.F ht⟩) hS.2.2 hd hlk
theorem cf_enter {d mc ms : Nat} {Y : MY} {As : List Value} {e0 : va_E} {ls0 : Nat → LL} {Wf : Nat → (Nat → Nat) → va_W} (hpl : plainName Y.1.cls = true) (hn : Y.1.name = "<init>") (hret : Y.2.2.2 = none) (hlen : ∀ h0, (lg_sl (.ref h0 :: As)).length ≤ Y.2.2.1) (hls : ∀ h0, lsE Y.2.2.1 (.ref h0 :: As) = ls0 h0)
    (K : ∀ (h0 : Nat) (p : Program) (e : Env) (s : State) (m : MethodId) (args : Array Value) (below : List Frame) (meth : Method) (c : Code), CxC p s m args c G Y.2.1 Y.2.2.1 Y.1.cls (va_A [(h0, e0)] s.heap.size) → meth.sig.returnType = none → meth.locks = false → meth.name = "<init>" → Cf p (gl G) e ({ frames := d, cells := mc, slots := ms, locals := 40 * d }) s m args below meth c G (va_A [(h0, e0)] s.heap.size) (MQ below (Qi G h0 e0 s.heap.size (Wf h0)) args s mc ms (va_A [(h0, e0)] s.heap.size)) Y.2.2.1 0 0 0 (ls0 h0) [] [(h0, e0)]) : Ci G d Y mc ms e0 As Wf := by
  intro h0 sz
  refine Met.ofW (cc := Y.2.1) (maxL := Y.2.2.1) (ret := Y.2.2.2) hpl rfl ?_
  intro p e s m args below meth c s₁ B hml hv
  obtain ⟨rfl, hsz, hP, hK, hXO⟩ := hv
  subst hsz
  have hts := atoms_spec (ws := wsY Y) B.pre
  have hl := lv_entry (.ref h0 :: As) (n := Y.2.2.1) (hlen h0)
  rw [lg_entry_eq]
  have hnm : meth.name = "<init>" := (name_of_methodNamed B.named B.method).1.trans hn
  refine K h0 p e s m _ below meth c ⟨B.exec, B.bytes, hml, findClass_of_methodNamed B.named, fun w hw => hts w (List.mem_cons_of_mem _ hw), hK, hXO, fun q hq => Or.inr hq⟩ (B.returns.trans hret) B.notSynchronized hnm s.heap [] _ hP ⟨?_, ?_⟩ va_S.rf ⟨hl.1, hl.2.1, fun i v hv => ?_⟩
  · intro i j a b hi hj _
    have h1 : i < 1 := (List.getElem?_eq_some_iff.mp hi).1
    have h2 : j < 1 := (List.getElem?_eq_some_iff.mp hj).1
    omega
  · exact fun k q hk => va_A.in hk
  rw [← hls] at hv
  refine hl.2.2 (i, v) (lookup_mem _ _ _ ?_)
  unfold lsE at hv
  rw [List.getElem?_map] at hv
  by_cases hn : i < Y.2.2.1
  · rw [List.getElem?_range hn] at hv
    exact Option.some.inj hv
  · rw [List.getElem?_eq_none (by rw [List.length_range]; omega)] at hv
    cases hv
/-- new int[N][K]: the rows lie in a row behind the array of them -/
theorem mq_outer (c : ClassId) (N h0 : Nat) : ∀ i : Nat, Jvm.Free.Multi.outerC c N h0 i = arrV c N (fun j => va_rf (if j < i then some (h0 + 1 + j) else none))
  | 0 => by
    show ({ cls := c, slots := Array.replicate N .null, vm := .none } : Cell) = _
    rw [arrV_new]
    exact congrArg (arrV c N) (funext fun j => by simp [va_rf])
  | i + 1 => by
    show (Jvm.Free.Multi.outerC c N h0 i).setSlot i (.ref (h0 + 1 + i)) = _
    rw [mq_outer c N h0 i, arrV_store]
    refine congrArg (arrV c N) (funext fun j => ?_)
    by_cases e : j = i
    · subst e
      simp [updV, va_rf]
    · by_cases h : j < i
      · simp [updV, e, h, Nat.lt_succ_of_lt h]
      · simp [updV, e, h, show ¬ j < i + 1 by omega]
theorem cf_mna (X : CxC p s m args c G cc nL own A) {idx : Nat} {n k : Int32} {N K0 c' s' : Nat} (hd : decode cc pc = .ok (.multianewarray idx 2, 4)) (hl : Cond.classLink own idx ("[" ++ (FieldType.array .int).toString) ∈ gtbl) (hn : ¬ n < 0) (hk : ¬ k < 0) (hN : n.toNatClampNeg = N) (hK0 : k.toNatClampNeg = K0) (hb1 : N * 4 ≤ 536870912) (hb2 : K0 * 4 ≤ 536870912) (hc : cells + 1 + N = c') (hs : slots + N + N * K0 = s') (hR : c' ≤ R.cells ∧ s' ≤ R.slots)
    (K : ∀ q : Nat, Cf p l e R s m args below meth c G A Qf nL c' s' (pc + 4) ls (.ref q :: st) (ws ++ ((q, .inl (gc G 24, N, .inr (.inr (.inr (.inr (fun i => if i < N then some (q + 1 + i) else none)))))) :: (List.range N).map fun i => (q + 1 + i, .inl (gc G 20, K0, .inl (fun _ => 0)))))) : Cf p l e R s m args below meth c G A Qf nL cells slots pc ls (.int k :: .int n :: st) ws := by
  obtain ⟨hx, hb, hml, hown, hts, hK, hxo, hA⟩ := X
  subst hc hs hN hK0
  intro H locs la hP hD hS hL T hT Xs
  obtain ⟨vm₁, cA, comp, -, fA, fC, -, -, X', step⟩ := Xs.multianewarray2F (ty := .int) hx hown (hts _ hl) hxo.2.2 (hts _ m_1_47) (g := F0 m pc la (.int k :: .int n :: st)) rfl (by rw [hb]; exact hd) rfl hn hk hb1 hb2 (by omega) rfl rfl (by omega) (by omega)
  have eA : cA = gc G 24 := Option.some.inj (fA.symm.trans (hK.2 3 _ rfl).2)
  have eC : comp = gc G 20 := Option.some.inj (fC.symm.trans (hK.2 0 _ rfl).2)
  subst eA eC
  generalize hF : Jvm.Free.Multi.fill (T.setVm vm₁) (gc G 24) (gc G 20) n.toNatClampNeg k.toNatClampNeg (defaultValue .int) n.toNatClampNeg = F at X' step
  have hTh : (T.setVm vm₁).heap = H := hT
  obtain ⟨f1, f2, -, -⟩ := Jvm.Free.Multi.fill_facts (T.setVm vm₁) (gc G 24) (gc G 20) n.toNatClampNeg k.toNatClampNeg (defaultValue .int) n.toNatClampNeg
  rw [hF, hTh] at f1 f2
  have hold : ∀ x : Nat, x < H.size → F.heap[x]? = H[x]? := fun x hx => by
    have := Jvm.Free.Multi.fill_old (T.setVm vm₁) (gc G 24) (gc G 20) n.toNatClampNeg k.toNatClampNeg (defaultValue .int) (a := x) (by rw [hTh]; exact hx) n.toNatClampNeg
    rw [hF, hTh] at this
    exact this
  have hrow : ∀ j : Nat, j < n.toNatClampNeg → F.heap[H.size + 1 + j]? = some (vp_cell (gc G 20) (k.toNatClampNeg, .inl (fun _ => 0))) := fun j hj => by
    have := Jvm.Free.Multi.fill_inner (T.setVm vm₁) (gc G 24) (gc G 20) n.toNatClampNeg k.toNatClampNeg (defaultValue .int) n.toNatClampNeg j hj
    rw [hF, hTh] at this
    rw [this]
    show some (Jvm.Free.Multi.innerC (gc G 20) k.toNatClampNeg (.int 0)) = some (arrV (gc G 20) k.toNatClampNeg (fun _ => .int 0))
    rw [← arrV_new]
    rfl
  rw [mq_outer] at f2
  have hnew : ∀ (i : Nat) (x : Nat × va_E), (((H.size, .inl (gc G 24, n.toNatClampNeg, .inr (.inr (.inr (.inr (fun i => if i < n.toNatClampNeg then some (H.size + 1 + i) else none)))))) : Nat × va_E) :: (List.range n.toNatClampNeg).map fun i => (H.size + 1 + i, .inl (gc G 20, k.toNatClampNeg, .inl (fun _ => 0))))[i]? = some x → x.1 = H.size + i ∧ va_at (gD G) vwCl x F.heap := fun i x hx => by
    cases i with
    | zero =>
      cases hx
      refine ⟨rfl, ?_⟩
      show F.heap[H.size]? = some (vp_cell _ _)
      rw [f2, vp_cell_q]
    | succ i =>
      rw [List.getElem?_cons_succ, List.getElem?_map] at hx
      by_cases hi : i < n.toNatClampNeg
      · rw [List.getElem?_range hi] at hx
        cases hx
        exact ⟨by show H.size + 1 + i = H.size + (i + 1); omega, hrow i hi⟩
      · rw [List.getElem?_eq_none (by rw [List.length_range]; omega)] at hx
        cases hx
  have hP1 : va_P (gD G) vwCl (ws ++ ((H.size, .inl (gc G 24, n.toNatClampNeg, .inr (.inr (.inr (.inr (fun i => if i < n.toNatClampNeg then some (H.size + 1 + i) else none)))))) :: (List.range n.toNatClampNeg).map fun i => (H.size + 1 + i, .inl (gc G 20, k.toNatClampNeg, .inl (fun _ => 0))))) F.heap := by
    have hP0 : va_P (gD G) vwCl ws F.heap := hP.kept (fun k9 x hx => hold x.1 ((hP k9 x hx).lt))
    exact hP0.app fun i x hx => (hnew i x hx).2
  have hD1 : va_D A (ws ++ ((H.size, .inl (gc G 24, n.toNatClampNeg, .inr (.inr (.inr (.inr (fun i => if i < n.toNatClampNeg then some (H.size + 1 + i) else none)))))) :: (List.range n.toNatClampNeg).map fun i => (H.size + 1 + i, .inl (gc G 20, k.toNatClampNeg, .inl (fun _ => 0))))) := by
    have hDn : va_D A ((((H.size, .inl (gc G 24, n.toNatClampNeg, .inr (.inr (.inr (.inr (fun i => if i < n.toNatClampNeg then some (H.size + 1 + i) else none)))))) : Nat × va_E) :: (List.range n.toNatClampNeg).map fun i => (H.size + 1 + i, .inl (gc G 20, k.toNatClampNeg, .inl (fun _ => 0))))) := ⟨fun i j x y hi hj hxy => by have := (hnew i x hi).1; have := (hnew j y hj).1; omega, fun i x hx => by
      have := (hnew i x hx).1
      exact hA _ (by have := hS.1; omega)⟩
    refine va_D.app hD hDn fun i j x y hi hj hxy => ?_
    have h1 := (hP i x hi).lt
    have h2 := (hnew j y hj).1
    omega
  obtain ⟨t, a1, b1⟩ := K H.size F.heap locs la hP1 hD1 ⟨by rw [f1]; have := hS.1; omega, fun x h1 h2 => (hold x (Nat.lt_of_lt_of_le h1 hS.1)).trans (hS.2.1 x h1 h2), hS.2.2⟩ hL F rfl X'
  refine ⟨t, step t ?_, b1⟩
  have e : T.heap.size = H.size := by rw [hT]
  rw [e]
  exact a1
end CONS
