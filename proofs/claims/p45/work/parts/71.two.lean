/-! a frame over any heap; two worlds side by side -/
section FAR
variable {p : Program} {l : Launch} {e : Env} {R : Room} {s : State} {m : MethodId} {args : Array Value} {below : List Frame} {meth : Method} {c : Code} {cells slots : Nat} {Qf : State → Prop}
variable {A : Nat → Prop} {Hp : Heap → Prop} {nL : Nat} {cc : ByteArray} {own : String} {pc : Nat} {ls : LL} {st : List Value}
def FA (p : Program) (l : Launch) (e : Env) (R : Room) (s : State) (m : MethodId) (args : Array Value) (below : List Frame) (meth : Method) (c : Code) (A : Nat → Prop) (cells slots : Nat) (Qf : State → Prop) (nL : Nat) (Hp : Heap → Prop) (pc : Nat) (ls : LL) (st : List Value) : Prop :=
  ∀ (H : Heap) (locs : List Loc) (la : Array Slot), Hp H → va_S A s.heap H locs → LH la nL ls → W p l e R s m args below meth c H locs cells slots Qf (F0 m pc la st)
def CxA (p : Program) (s : State) (m : MethodId) (args : Array Value) (c : Code) (cc : ByteArray) (nL : Nat) (own : String) : Prop :=
  p.tables.exec = Jvm.exec ∧ c.code = cc ∧ c.maxLocals = nL ∧ s.vm.findClass own = some m.cls ∧ (∀ w ∈ gtbl, w.before args s = true) ∧ True
theorem fa_1 {n : Nat} {st' : List Value} (h : ∀ (H : Heap) (locs : List Loc) (la : Array Slot), LH la nL ls → W p l e R s m args below meth c H locs cells slots Qf (F0 m n la st') → W p l e R s m args below meth c H locs cells slots Qf (F0 m pc la st)) (K : FA p l e R s m args below meth c A cells slots Qf nL Hp n ls st') : FA p l e R s m args below meth c A cells slots Qf nL Hp pc ls st :=
  fun H locs la hP hS hL => h H locs la hL (K H locs la hP hS hL)
theorem fa_iconst (X : CxA p s m args c cc nL own) {n : Int} {v : Int32} (hd : decode cc pc = .ok (.iconst n, 1)) (hv : Int32.ofInt n = v) (K : FA p l e R s m args below meth c A cells slots Qf nL Hp (pc + 1) ls (.int v :: st)) : FA p l e R s m args below meth c A cells slots Qf nL Hp pc ls st :=
  fa_1 (fun _ _ _ _ k => lv_iconst X.1 X.2.1 hd hv k) K
theorem fa_bipush (X : CxA p s m args c cc nL own) {n : Int} {v : Int32} (hd : decode cc pc = .ok (.bipush n, 2)) (hv : (Int8.ofInt n).toInt32 = v) (K : FA p l e R s m args below meth c A cells slots Qf nL Hp (pc + 2) ls (.int v :: st)) : FA p l e R s m args below meth c A cells slots Qf nL Hp pc ls st :=
  fa_1 (fun _ _ _ _ k => lv_bipush X.1 X.2.1 hd hv k) K
theorem fa_ldc (X : CxA p s m args c cc nL own) {i : Nat} {v : Int32} (hc : Cond.constant own i v ∈ gtbl) (hd : decode cc pc = .ok (.ldc i, 2)) (K : FA p l e R s m args below meth c A cells slots Qf nL Hp (pc + 2) ls (.int v :: st)) : FA p l e R s m args below meth c A cells slots Qf nL Hp pc ls st :=
  fa_1 (fun _ _ _ _ k => lv_ldc X.1 X.2.1 X.2.2.2.1 (X.2.2.2.2.1 _ hc) hd k) K
theorem fa_iload_n (X : CxA p s m args c cc nL own) {k : Fin 4} {i : Nat} {x : Int32} (hd : decode cc pc = .ok (.iload_n k, 1)) (hi : (k : Nat) = i) (hl : ls[i]? = some (some (.int x))) (K : FA p l e R s m args below meth c A cells slots Qf nL Hp (pc + 1) ls (.int x :: st)) : FA p l e R s m args below meth c A cells slots Qf nL Hp pc ls st :=
  fa_1 (fun _ _ _ hL k => lv_iload_n X.1 X.2.1 hd hi (hL.2.2 _ _ hl) k) K
theorem fa_iload (X : CxA p s m args c cc nL own) {i : Nat} {x : Int32} (hd : decode cc pc = .ok (.iload i, 2)) (hl : ls[i]? = some (some (.int x))) (K : FA p l e R s m args below meth c A cells slots Qf nL Hp (pc + 2) ls (.int x :: st)) : FA p l e R s m args below meth c A cells slots Qf nL Hp pc ls st :=
  fa_1 (fun _ _ _ hL k => lv_iload X.1 X.2.1 hd (hL.2.2 _ _ hl) k) K
theorem fa_lload (X : CxA p s m args c cc nL own) {i : Nat} {x : Int64} (hd : decode cc pc = .ok (.lload i, 2)) (hl : ls[i]? = some (some (.long x))) (K : FA p l e R s m args below meth c A cells slots Qf nL Hp (pc + 2) ls (.long x :: st)) : FA p l e R s m args below meth c A cells slots Qf nL Hp pc ls st :=
  fa_1 (fun _ _ _ hL k => lv_lload X.1 X.2.1 hd (hL.2.2 _ _ hl) k) K
theorem fa_aload_n (X : CxA p s m args c cc nL own) {k : Fin 4} {i : Nat} {x : Nat} (hd : decode cc pc = .ok (.aload_n k, 1)) (hi : (k : Nat) = i) (hl : ls[i]? = some (some (.ref x))) (K : FA p l e R s m args below meth c A cells slots Qf nL Hp (pc + 1) ls (.ref x :: st)) : FA p l e R s m args below meth c A cells slots Qf nL Hp pc ls st :=
  fa_1 (fun _ _ _ hL k => lv_aload_n X.1 X.2.1 hd hi (hL.2.2 _ _ hl) k) K
theorem fa_aload (X : CxA p s m args c cc nL own) {i : Nat} {x : Nat} (hd : decode cc pc = .ok (.aload i, 2)) (hl : ls[i]? = some (some (.ref x))) (K : FA p l e R s m args below meth c A cells slots Qf nL Hp (pc + 2) ls (.ref x :: st)) : FA p l e R s m args below meth c A cells slots Qf nL Hp pc ls st :=
  fa_1 (fun _ _ _ hL k => lv_aload X.1 X.2.1 hd (hL.2.2 _ _ hl) k) K
theorem fa_st1 {i n : Nat} {v : Value} {ls' : LL} (h : ∀ (H : Heap) (locs : List Loc) (la : Array Slot), LH la nL ls → (∀ la' : Array Slot, LH la' nL ls' → W p l e R s m args below meth c H locs cells slots Qf (F0 m n la' st)) → W p l e R s m args below meth c H locs cells slots Qf (F0 m pc la (v :: st))) (K : FA p l e R s m args below meth c A cells slots Qf nL Hp n ls' st) : FA p l e R s m args below meth c A cells slots Qf nL Hp pc ls (v :: st) :=
  fun H locs la hP hS hL => h H locs la hL fun la' hL' => K H locs la' hP hS hL'
theorem fa_istore_n (X : CxA p s m args c cc nL own) {k : Fin 4} {i : Nat} {x : Int32} {ls' : LL} (hd : decode cc pc = .ok (.istore_n k, 1)) (hi : (k : Nat) = i) (hn : i < nL) (ho : okA ls i = true) (hs : ls.set i (some (.int x)) = ls') (K : FA p l e R s m args below meth c A cells slots Qf nL Hp (pc + 1) ls' st) : FA p l e R s m args below meth c A cells slots Qf nL Hp pc ls (.int x :: st) :=
  fa_st1 (i := i) (fun _ _ _ hL k => lv_istore_n X.1 X.2.1 hd hi hL.has hn rfl (fun la' h => k la' (LH_of h ho hs))) K
theorem fa_istore (X : CxA p s m args c cc nL own) {i : Nat} {x : Int32} {ls' : LL} (hd : decode cc pc = .ok (.istore i, 2)) (hn : i < nL) (ho : okA ls i = true) (hs : ls.set i (some (.int x)) = ls') (K : FA p l e R s m args below meth c A cells slots Qf nL Hp (pc + 2) ls' st) : FA p l e R s m args below meth c A cells slots Qf nL Hp pc ls (.int x :: st) :=
  fa_st1 (i := i) (fun _ _ _ hL k => lv_istore X.1 X.2.1 hd hL.has hn rfl (fun la' h => k la' (LH_of h ho hs))) K
theorem fa_lstore (X : CxA p s m args c cc nL own) {i : Nat} {x : Int64} {ls' : LL} (hd : decode cc pc = .ok (.lstore i, 2)) (hn : i + 1 < nL) (ho : okA ls i = true) (hs : (ls.set i (some (.long x))).set (i + 1) none = ls') (K : FA p l e R s m args below meth c A cells slots Qf nL Hp (pc + 2) ls' st) : FA p l e R s m args below meth c A cells slots Qf nL Hp pc ls (.long x :: st) :=
  fa_st1 (i := i) (fun _ _ _ hL k => lv_lstore X.1 X.2.1 hd hL.has hn rfl (fun la' h => k la' (LH_of2 h ho hs))) K
theorem fa_astore_n (X : CxA p s m args c cc nL own) {k : Fin 4} {i : Nat} {x : Nat} {ls' : LL} (hd : decode cc pc = .ok (.astore_n k, 1)) (hi : (k : Nat) = i) (hn : i < nL) (ho : okA ls i = true) (hs : ls.set i (some (.ref x)) = ls') (K : FA p l e R s m args below meth c A cells slots Qf nL Hp (pc + 1) ls' st) : FA p l e R s m args below meth c A cells slots Qf nL Hp pc ls (.ref x :: st) :=
  fa_st1 (i := i) (fun _ _ _ hL k => lv_astore_n X.1 X.2.1 hd hi hL.has hn rfl (fun la' h => k la' (LH_of h ho hs))) K
theorem fa_iinc (X : CxA p s m args c cc nL own) {i : Nat} {n : Int} {x v : Int32} {ls' : LL} (hd : decode cc pc = .ok (.iinc i n, 3)) (hl : ls[i]? = some (some (.int x))) (hv : x + Int32.ofInt n = v) (hn : i < nL) (ho : okA ls i = true) (hs : ls.set i (some (.int v)) = ls') (K : FA p l e R s m args below meth c A cells slots Qf nL Hp (pc + 3) ls' st) : FA p l e R s m args below meth c A cells slots Qf nL Hp pc ls st := by
  intro H locs la hP hS hL
  obtain ⟨k, hk⟩ := List.getElem?_of_mem (lass_mem (q := (i, .int x)).mpr hl)
  exact lv_iinc X.1 X.2.1 hd hL.has hk hv hn rfl (fun la' h => K H locs la' hP hS (LH_of h ho hs))
theorem fa_mask (bs : List Bool) {ls' : LL} (hs : maskL bs ls = ls') (K : FA p l e R s m args below meth c A cells slots Qf nL Hp pc ls' st) : FA p l e R s m args below meth c A cells slots Qf nL Hp pc ls st := by
  subst hs
  exact fun H locs la hP hS hL => K H locs la hP hS (hL.mask bs)
theorem fa_iadd (X : CxA p s m args c cc nL own) {x y : Int32} (hd : decode cc pc = .ok (.iadd, 1)) (K : FA p l e R s m args below meth c A cells slots Qf nL Hp (pc + 1) ls (.int (x + y) :: st)) : FA p l e R s m args below meth c A cells slots Qf nL Hp pc ls (.int y :: .int x :: st) := fa_1 (fun _ _ _ _ k => lv_iadd X.1 X.2.1 hd k) K
theorem fa_isub (X : CxA p s m args c cc nL own) {x y : Int32} (hd : decode cc pc = .ok (.isub, 1)) (K : FA p l e R s m args below meth c A cells slots Qf nL Hp (pc + 1) ls (.int (x - y) :: st)) : FA p l e R s m args below meth c A cells slots Qf nL Hp pc ls (.int y :: .int x :: st) := fa_1 (fun _ _ _ _ k => lv_isub X.1 X.2.1 hd k) K
theorem fa_imul (X : CxA p s m args c cc nL own) {x y : Int32} (hd : decode cc pc = .ok (.imul, 1)) (K : FA p l e R s m args below meth c A cells slots Qf nL Hp (pc + 1) ls (.int (x * y) :: st)) : FA p l e R s m args below meth c A cells slots Qf nL Hp pc ls (.int y :: .int x :: st) := fa_1 (fun _ _ _ _ k => lv_imul X.1 X.2.1 hd k) K
theorem fa_iand (X : CxA p s m args c cc nL own) {x y : Int32} (hd : decode cc pc = .ok (.iand, 1)) (K : FA p l e R s m args below meth c A cells slots Qf nL Hp (pc + 1) ls (.int (x &&& y) :: st)) : FA p l e R s m args below meth c A cells slots Qf nL Hp pc ls (.int y :: .int x :: st) := fa_1 (fun _ _ _ _ k => lv_iand X.1 X.2.1 hd k) K
theorem fa_ishr (X : CxA p s m args c cc nL own) {x y : Int32} (hd : decode cc pc = .ok (.ishr, 1)) (K : FA p l e R s m args below meth c A cells slots Qf nL Hp (pc + 1) ls (.int (x >>> (y &&& 31)) :: st)) : FA p l e R s m args below meth c A cells slots Qf nL Hp pc ls (.int y :: .int x :: st) := fa_1 (fun _ _ _ _ k => lv_ishr X.1 X.2.1 hd k) K
theorem fa_lcmp (X : CxA p s m args c cc nL own) {x y : Int64} (hd : decode cc pc = .ok (.lcmp, 1)) (K : FA p l e R s m args below meth c A cells slots Qf nL Hp (pc + 1) ls (.int (lg_cmp x y) :: st)) : FA p l e R s m args below meth c A cells slots Qf nL Hp pc ls (.long y :: .long x :: st) := fa_1 (fun _ _ _ _ k => W.lcmp X.1 X.2.1 hd k) K
theorem fa_goto (X : CxA p s m args c cc nL own) {off : Int} {tgt : Nat} (hd : decode cc pc = .ok (.goto off, 3)) (ht : (pc : Int) + off = (tgt : Int)) (K : FA p l e R s m args below meth c A cells slots Qf nL Hp tgt ls st) : FA p l e R s m args below meth c A cells slots Qf nL Hp pc ls st := fa_1 (fun _ _ _ _ k => lv_goto X.1 X.2.1 hd ht k) K
theorem fa_icmp_ne (X : CxA p s m args c cc nL own) {x y : Int32} {off : Int} {tgt : Nat} (hd : decode cc pc = .ok (.if_icmp .ne off, 3)) (ht : (pc : Int) + off = (tgt : Int)) (KT : ¬ x = y → FA p l e R s m args below meth c A cells slots Qf nL Hp tgt ls st) (KF : x = y → FA p l e R s m args below meth c A cells slots Qf nL Hp (pc + 3) ls st) : FA p l e R s m args below meth c A cells slots Qf nL Hp pc ls (.int y :: .int x :: st) :=
  fun H locs la hP hS hL => lv_icmp_ne X.1 X.2.1 hd ht (fun h => KT (h) H locs la hP hS hL) (fun h => KF (h) H locs la hP hS hL)
theorem fa_icmp_ge (X : CxA p s m args c cc nL own) {x y : Int32} {off : Int} {tgt : Nat} (hd : decode cc pc = .ok (.if_icmp .ge off, 3)) (ht : (pc : Int) + off = (tgt : Int)) (KT : ¬ x < y → FA p l e R s m args below meth c A cells slots Qf nL Hp tgt ls st) (KF : x < y → FA p l e R s m args below meth c A cells slots Qf nL Hp (pc + 3) ls st) : FA p l e R s m args below meth c A cells slots Qf nL Hp pc ls (.int y :: .int x :: st) :=
  fun H locs la hP hS hL => lv_icmp_ge X.1 X.2.1 hd ht (fun h => KT (Int32.not_lt.mpr h) H locs la hP hS hL) (fun h => KF (Int32.not_le.mp h) H locs la hP hS hL)
theorem fa_if_eq (X : CxA p s m args c cc nL own) {x : Int32} {off : Int} {tgt : Nat} (hd : decode cc pc = .ok (.ifCond .eq off, 3)) (ht : (pc : Int) + off = (tgt : Int)) (KT : x = 0 → FA p l e R s m args below meth c A cells slots Qf nL Hp tgt ls st) (KF : ¬ x = 0 → FA p l e R s m args below meth c A cells slots Qf nL Hp (pc + 3) ls st) : FA p l e R s m args below meth c A cells slots Qf nL Hp pc ls (.int x :: st) :=
  fun H locs la hP hS hL => lv_if_eq X.1 X.2.1 hd ht (fun h => KT (h) H locs la hP hS hL) (fun h => KF (h) H locs la hP hS hL)
theorem fa_if_ne (X : CxA p s m args c cc nL own) {x : Int32} {off : Int} {tgt : Nat} (hd : decode cc pc = .ok (.ifCond .ne off, 3)) (ht : (pc : Int) + off = (tgt : Int)) (KT : ¬ x = 0 → FA p l e R s m args below meth c A cells slots Qf nL Hp tgt ls st) (KF : x = 0 → FA p l e R s m args below meth c A cells slots Qf nL Hp (pc + 3) ls st) : FA p l e R s m args below meth c A cells slots Qf nL Hp pc ls (.int x :: st) :=
  fun H locs la hP hS hL => lv_if_ne X.1 X.2.1 hd ht (fun h => KT (h) H locs la hP hS hL) (fun h => KF (h) H locs la hP hS hL)
theorem fa_if_lt (X : CxA p s m args c cc nL own) {x : Int32} {off : Int} {tgt : Nat} (hd : decode cc pc = .ok (.ifCond .lt off, 3)) (ht : (pc : Int) + off = (tgt : Int)) (KT : x < 0 → FA p l e R s m args below meth c A cells slots Qf nL Hp tgt ls st) (KF : ¬ x < 0 → FA p l e R s m args below meth c A cells slots Qf nL Hp (pc + 3) ls st) : FA p l e R s m args below meth c A cells slots Qf nL Hp pc ls (.int x :: st) :=
  fun H locs la hP hS hL => lv_if_lt X.1 X.2.1 hd ht (fun h => KT (h) H locs la hP hS hL) (fun h => KF (h) H locs la hP hS hL)
theorem fa_pop (X : CxA p s m args c cc nL own) {v : Value} (hd : decode cc pc = .ok (.pop, 1)) (hv : v.category = 1) (K : FA p l e R s m args below meth c A cells slots Qf nL Hp (pc + 1) ls st) : FA p l e R s m args below meth c A cells slots Qf nL Hp pc ls (v :: st) := fa_1 (fun _ _ _ _ k => lv_pop X.1 X.2.1 hd hv k) K
theorem fa_sld (X : CxA p s m args c cc nL own) {b Ln : Nat} {xs : Nat → Int32} (hX : va_X b Ln xs s s.heap ∧ b < s.heap.size ∧ ¬ A b) {i : Int32} (hin : vp_in i Ln) (hd : decode cc pc = .ok (.iaload, 1)) (K : FA p l e R s m args below meth c A cells slots Qf nL Hp (pc + 1) ls (.int (xs i.toNatClampNeg) :: st)) : FA p l e R s m args below meth c A cells slots Qf nL Hp pc ls (.int i :: .ref b :: st) :=
  fun H locs la hP hS hL => va_sld X.1 X.2.1 hX.1 hX.2.1 hX.2.2 hS hin hd (K H locs la hP hS hL)
theorem fa_slen (X : CxA p s m args c cc nL own) {b Ln : Nat} {xs : Nat → Int32} (hX : va_X b Ln xs s s.heap ∧ b < s.heap.size ∧ ¬ A b) (hd : decode cc pc = .ok (.arraylength, 1)) (K : FA p l e R s m args below meth c A cells slots Qf nL Hp (pc + 1) ls (.int (nI Ln) :: st)) : FA p l e R s m args below meth c A cells slots Qf nL Hp pc ls (.ref b :: st) :=
  fun H locs la hP hS hL => va_slen X.1 X.2.1 hX.1 hX.2.1 hX.2.2 hS hd (K H locs la hP hS hL)
/-- the end of a method that answers an int -/
theorem fa_iret (X : CxA p s m args c cc nL own) {ty : FieldType} {v : Int32} {Qc : Array Value → State → Outcome → State → Prop} (hr9 : meth.sig.returnType = some ty) (hk9 : meth.locks = false) (hd : decode cc pc = .ok (.ireturn, 1)) (hn : narrow ty (.int v) = .int v) (h : ∀ t : State, Hp t.heap → va_F A s t → Qc args s (.returned (some (.int v))) t) : FA p l e R s m args below meth c A 0 0 (MQ below Qc args s 0 0 A) nL Hp pc ls [.int v] :=
  fun H locs la hP hS hL => W.zret X.1 X.2.1 hr9 hn (fun t ht hW => h t (by rw [ht]; exact hP) (hS.F ht)) hS.2.2 hd hk9
/-- behind a call: what it left, and what it left alone -/
theorem fa_run {Qa : State → Outcome → State → Prop} {Pst : Option Value → Heap → Prop} {A1 free : Nat → Prop} {la : Array Slot} {H : Heap} {locs : List Loc} {st0 : List Value} (hr : va_Run p l e R s m args below meth c H locs cells slots 0 0 (F0 m pc la st0) st Qa free) (hQ : ∀ (u t : State) (v : Option Value), Qa u (.returned v) t → Pst v t.heap ∧ va_F A1 u t) (hA1 : ∀ q, A1 q → A q) (hfr : ∀ q, free q → A q) (hS : va_S A s.heap H locs)
    (K : ∀ (v : Option Value) (H1 : Heap) (locs1 : List Loc), Pst v H1 → (∀ q : Nat, q < H.size → ¬ A1 q → H1[q]? = H[q]?) → va_S A s.heap H1 locs1 → W p l e R s m args below meth c H1 locs1 cells slots Qf (F0 m (pc + 3) la (v.toList ++ st))) : W p l e R s m args below meth c H locs cells slots Qf (F0 m pc la st0) := by
  intro T hT X
  obtain ⟨v, u, t, T', L, h0, X', hL', e1, e2, hq, sg⟩ := hr T hT X
  obtain ⟨hp, hz, hk⟩ := hQ u t v hq
  rw [h0] at hz hk
  obtain ⟨t2, a1, b1⟩ := K v T'.heap (locs ++ L) (by rw [e1]; exact hp) (fun q h1 h2 => by rw [e1]; exact hk q h1 h2)
    ⟨Nat.le_trans hS.1 (by rw [e1]; exact hz), fun q h1 h2 => by rw [e1, hk q (Nat.lt_of_lt_of_le h1 hS.1) (fun z => h2 (hA1 q z))]; exact hS.2.1 q h1 h2, fun q hq => by
      rcases List.mem_append.mp hq with h | h
      · exact hS.2.2 q h
      · exact hfr _ (hL' q h)⟩ T' rfl X'
  exact ⟨t2, sg t2 a1, b1⟩
/-- both worlds -/
def W2 (Ga Gb : Glob) (Ma Mb : Mem) : Heap → Prop := fun H => va_P (gD Ga) vwCl (wso Ga Ma) H ∧ va_P (gD Gb) vwCl (wso Gb Mb) H
/-- they are apart, each with its classes -/
def Twn (l : Launch) (s : State) (A : Nat → Prop) (Ga Gb : Glob) : Prop := va_K (gD Ga) vwCl (tso Ga) s ∧ va_K (gD Gb) vwCl (tso Gb) s ∧ GI Ga ∧ GI Gb ∧ (∀ i j, i < nT → j < nT → ad Ga i ≠ ad Gb j) ∧ (∀ q, AG Ga q → A q) ∧ (∀ q, AG Gb q → A q) ∧ gl Ga = l ∧ gl Gb = l
def A2 (Ga Gb : Glob) : Nat → Prop := fun q => AG Ga q ∨ AG Gb q
variable {Ga Gb : Glob} {Ma Mb : Mem}
theorem Twn.sw (T : Twn l s A Ga Gb) : Twn l s A Gb Ga := ⟨T.2.1, T.1, T.2.2.2.1, T.2.2.1, fun i j hi hj h => T.2.2.2.2.1 j i hj hi h.symm, T.2.2.2.2.2.2.1, T.2.2.2.2.2.1, T.2.2.2.2.2.2.2.2, T.2.2.2.2.2.2.2.1⟩
theorem Twn.to {U : State} (T : Twn l s A Ga Gb) (hvm : s.vm.Alike U.vm) : Twn l U (A2 Ga Gb) Ga Gb := ⟨va_K.moved hvm T.1, va_K.moved hvm T.2.1, T.2.2.1, T.2.2.2.1, T.2.2.2.2.1, fun _ h => Or.inl h, fun _ h => Or.inr h, T.2.2.2.2.2.2.2⟩
theorem Twn.in (T : Twn l s A Ga Gb) : ∀ q, A2 Ga Gb q → A q := fun q h => h.elim (T.2.2.2.2.2.1 q) (T.2.2.2.2.2.2.1 q)
theorem Twn.off (T : Twn l s A Ga Gb) {k : Nat} {q : Nat × va_E} (h : (wso Gb Mb)[k]? = some q) : ¬ AG Ga q.1 := fun z => by
  have hk := (List.getElem?_eq_some_iff.mp h).1
  rw [wso_len] at hk
  rw [wso_at Gb Mb hk] at h
  cases h
  obtain ⟨a, ha, e⟩ := z
  exact T.2.2.2.2.1 a k ha hk e.symm
theorem fa_sw (K : FA p l e R s m args below meth c A cells slots Qf nL (W2 Gb Ga Mb Ma) pc ls st) : FA p l e R s m args below meth c A cells slots Qf nL (W2 Ga Gb Ma Mb) pc ls st := fun H locs la hP => K H locs la ⟨hP.2, hP.1⟩
theorem qm_out {G : Glob} {Q' : Option Value → Mem → Prop} {a : Array Value} : ∀ (u t : State) (v : Option Value), Qm G Q' a u (.returned v) t → (∃ M', Q' v M' ∧ va_P (gD G) vwCl (wso G M') t.heap) ∧ va_F (AG G) u t := fun u t v h => by
  obtain ⟨⟨v', M', hv, hq, hP1⟩, hF⟩ := h
  cases hv
  exact ⟨⟨M', hq, hP1⟩, hF⟩
theorem fa_callV (X : CxA p s m args c cc nL own) (T : Twn l s A Ga Gb) {a ci d n idx : Nat} {Y : MY} {As st0 : List Value} {Q' : Option Value → Mem → Prop} (hd : decode cc pc = .ok (.invokevirtual idx, 3)) (hk : kd a = ci) (hm : CMV Y n ci) (hl : Cond.methodLink own idx Y.1 ∈ gtbl) (hR : d + 1 ≤ R.frames ∧ 40 * (d + 1) ≤ R.locals ∧ cells ≤ R.cells ∧ slots ≤ R.slots) (hn : As.length = n) (hst : (st.map fun v => v.category).sum ≤ 8) (h0 : st0 = As.reverse ++ .ref (ad Ga a) :: st) (hC : WpM Ga d Y (.ref (ad Ga a) :: As) Ma Q') (K : ∀ v M', Q' v M' → FA p l e R s m args below meth c A cells slots Qf nL (W2 Ga Gb M' Mb) (pc + 3) ls (v.toList ++ st)) : FA p l e R s m args below meth c A cells slots Qf nL (W2 Ga Gb Ma Mb) pc ls st0 := by
  intro H locs la hP hS hL
  obtain ⟨hx, hb, hml, hown, hts, -⟩ := X
  have T0 := T
  obtain ⟨hKa, hKb, hia, hib, hdis, hAa, hAb, hla, hlb⟩ := T
  subst hla
  obtain ⟨hcm, hin, hse, ⟨T1, N, hcl⟩, hci⟩ := hm
  have ha := kd_lt hk (by omega)
  have cb : CallB R s args own idx Y.1 Y.2.1 Y.2.2.1 Y.2.2.2 (wsY Y) (rmD d) 0 0 n := callB_of n hts (goodY hcm) rfl rfl rfl (hts _ hcm.2.1) (hts _ hl) hcm.2.2.1 ⟨hR.1, by have := hcm.2.2.2; have h2 := hR.2.1; show 8 + (Y.2.2.1 + 11) + 40 * d ≤ R.locals; omega⟩
  refine fa_run (Pst := fun v H1 => ∃ M', Q' v M' ∧ va_P (gD Ga) vwCl (wso Ga M') H1) (va_runV (As := As) (rest := st) (b := ad Ga a) ⟨hx, hb, hml, hown, hts⟩ hC ⟨cb, hts _ hin, hts _ hse⟩ ⟨Bm_blind _, va_recv hKa hP.1 (ci := ci) (q0 := a) hcl (by rw [wso_at Ga Ma ha, ent_obj Ga Ma hk hci]), fun U hU hW => ⟨rfl, by rw [hU]; exact hP.1, va_K.moved hW.alike hKa, hia⟩⟩ rfl hn hL.1 h0 (lv_room hst) hd ⟨hR.2.2.1, hR.2.2.2⟩) qm_out hAa hAa hS fun v H1 locs1 hp hk1 hS1 => ?_
  obtain ⟨M', hq, hP1⟩ := hp
  exact K v M' hq H1 locs1 la ⟨hP1, hP.2.kept fun k q hk' => hk1 q.1 (hP.2 k q hk').lt (T0.off hk')⟩ hS1 hL
theorem fa_callS (X : CxA p s m args c cc nL own) (T : Twn l s A Ga Gb) {d n idx : Nat} {Y : MY} {As st0 : List Value} {Q' : Option Value → Mem → Prop} (hd : decode cc pc = .ok (.invokestatic idx, 3)) (hm : CMS Y n) (hl : Cond.methodLink own idx Y.1 ∈ gtbl) (hR : d + 1 ≤ R.frames ∧ 40 * (d + 1) ≤ R.locals ∧ cells ≤ R.cells ∧ slots ≤ R.slots) (hn : As.length = n) (hst : (st.map fun v => v.category).sum ≤ 8) (h0 : st0 = As.reverse ++ st) (hC : WpM Ga d Y As Ma Q') (K : ∀ v M', Q' v M' → FA p l e R s m args below meth c A cells slots Qf nL (W2 Ga Gb M' Mb) (pc + 3) ls (v.toList ++ st)) : FA p l e R s m args below meth c A cells slots Qf nL (W2 Ga Gb Ma Mb) pc ls st0 := by
  intro H locs la hP hS hL
  obtain ⟨hx, hb, hml, hown, hts, -⟩ := X
  have T0 := T
  obtain ⟨hKa, hKb, hia, hib, hdis, hAa, hAb, hla, hlb⟩ := T
  subst hla
  obtain ⟨hcm, hin⟩ := hm
  have cb : CallB R s args own idx Y.1 Y.2.1 Y.2.2.1 Y.2.2.2 (wsY Y) (rmD d) 0 0 n := callB_of n hts (goodY hcm) rfl rfl rfl (hts _ hcm.2.1) (hts _ hl) hcm.2.2.1 ⟨hR.1, by have := hcm.2.2.2; have h2 := hR.2.1; show 8 + (Y.2.2.1 + 11) + 40 * d ≤ R.locals; omega⟩
  refine fa_run (Pst := fun v H1 => ∃ M', Q' v M' ∧ va_P (gD Ga) vwCl (wso Ga M') H1) (va_runS (As := As) (rest := st) ⟨hx, hb, hml, hown, hts⟩ hC ⟨cb, hts _ hin⟩ ⟨Bm_blind _, fun U hU hW => ⟨rfl, by rw [hU]; exact hP.1, va_K.moved hW.alike hKa, hia⟩⟩ rfl hn hL.1 h0 (lv_room hst) hd ⟨hR.2.2.1, hR.2.2.2⟩) qm_out hAa hAa hS fun v H1 locs1 hp hk1 hS1 => ?_
  obtain ⟨M', hq, hP1⟩ := hp
  exact K v M' hq H1 locs1 la ⟨hP1, hP.2.kept fun k q hk' => hk1 q.1 (hP.2 k q hk').lt (T0.off hk')⟩ hS1 hL
/-- what a call of one object leaves: an answer, and memories of one state -/
def Ov (v : Value) (S : St) : Option Value → Mem → Prop := fun w M => w = some v ∧ RC S M
/-- a call of the first object; of the second -/
theorem fa_o (X : CxA p s m args c cc nL own) (T : Twn l s A Ga Gb) {d n idx : Nat} {Y : MY} {As st0 : List Value} {v : Value} {S : St} (hd : decode cc pc = .ok (.invokevirtual idx, 3)) (hm : CMV Y n 10) (hl : Cond.methodLink own idx Y.1 ∈ gtbl) (hR : d + 1 ≤ R.frames ∧ 40 * (d + 1) ≤ R.locals ∧ cells ≤ R.cells ∧ slots ≤ R.slots) (hn : As.length = n) (hst : (st.map fun v => v.category).sum ≤ 8) (h0 : st0 = As.reverse ++ .ref (ad Ga 0) :: st) (hC : WpM Ga d Y (.ref (ad Ga 0) :: As) Ma (Ov v S)) (K : ∀ M', RC S M' → FA p l e R s m args below meth c A cells slots Qf nL (W2 Ga Gb M' Mb) (pc + 3) ls (v :: st)) : FA p l e R s m args below meth c A cells slots Qf nL (W2 Ga Gb Ma Mb) pc ls st0 :=
  fa_callV (a := 0) (ci := 10) X T hd rfl hm hl hR hn hst h0 hC fun w M' h => by obtain ⟨rfl, h⟩ := h; exact K M' h
theorem fa_q (X : CxA p s m args c cc nL own) (T : Twn l s A Ga Gb) {d n idx : Nat} {Y : MY} {As st0 : List Value} {v : Value} {S : St} (hd : decode cc pc = .ok (.invokevirtual idx, 3)) (hm : CMV Y n 10) (hl : Cond.methodLink own idx Y.1 ∈ gtbl) (hR : d + 1 ≤ R.frames ∧ 40 * (d + 1) ≤ R.locals ∧ cells ≤ R.cells ∧ slots ≤ R.slots) (hn : As.length = n) (hst : (st.map fun v => v.category).sum ≤ 8) (h0 : st0 = As.reverse ++ .ref (ad Gb 0) :: st) (hC : WpM Gb d Y (.ref (ad Gb 0) :: As) Mb (Ov v S)) (K : ∀ M', RC S M' → FA p l e R s m args below meth c A cells slots Qf nL (W2 Ga Gb Ma M') (pc + 3) ls (v :: st)) : FA p l e R s m args below meth c A cells slots Qf nL (W2 Ga Gb Ma Mb) pc ls st0 :=
  fa_sw (fa_o X T.sw hd hm hl hR hn hst h0 hC fun M' h => fa_sw (K M' h))
theorem fa_so (X : CxA p s m args c cc nL own) (T : Twn l s A Ga Gb) {d n idx : Nat} {Y : MY} {As st0 : List Value} {v : Value} {S : St} (hd : decode cc pc = .ok (.invokestatic idx, 3)) (hm : CMS Y n) (hl : Cond.methodLink own idx Y.1 ∈ gtbl) (hR : d + 1 ≤ R.frames ∧ 40 * (d + 1) ≤ R.locals ∧ cells ≤ R.cells ∧ slots ≤ R.slots) (hn : As.length = n) (hst : (st.map fun v => v.category).sum ≤ 8) (h0 : st0 = As.reverse ++ st) (hC : WpM Ga d Y As Ma (Ov v S)) (K : ∀ M', RC S M' → FA p l e R s m args below meth c A cells slots Qf nL (W2 Ga Gb M' Mb) (pc + 3) ls (v :: st)) : FA p l e R s m args below meth c A cells slots Qf nL (W2 Ga Gb Ma Mb) pc ls st0 :=
  fa_callS X T hd hm hl hR hn hst h0 hC fun w M' h => by obtain ⟨rfl, h⟩ := h; exact K M' h
theorem fa_sq (X : CxA p s m args c cc nL own) (T : Twn l s A Ga Gb) {d n idx : Nat} {Y : MY} {As st0 : List Value} {v : Value} {S : St} (hd : decode cc pc = .ok (.invokestatic idx, 3)) (hm : CMS Y n) (hl : Cond.methodLink own idx Y.1 ∈ gtbl) (hR : d + 1 ≤ R.frames ∧ 40 * (d + 1) ≤ R.locals ∧ cells ≤ R.cells ∧ slots ≤ R.slots) (hn : As.length = n) (hst : (st.map fun v => v.category).sum ≤ 8) (h0 : st0 = As.reverse ++ st) (hC : WpM Gb d Y As Mb (Ov v S)) (K : ∀ M', RC S M' → FA p l e R s m args below meth c A cells slots Qf nL (W2 Ga Gb Ma M') (pc + 3) ls (v :: st)) : FA p l e R s m args below meth c A cells slots Qf nL (W2 Ga Gb Ma Mb) pc ls st0 :=
  fa_sw (fa_so X T.sw hd hm hl hR hn hst h0 hC fun M' h => fa_sw (K M' h))
end FAR
