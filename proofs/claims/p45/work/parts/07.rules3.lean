section FR3
variable {p : Program} {l : Launch} {e : Env} {R : Room} {s : State} {m : MethodId} {args : Array Value} {below : List Frame} {meth : Method} {c : Code} {cells slots : Nat} {Qf : State → Prop}
variable {G : Glob} {nL : Nat} {cc : ByteArray} {own : String} {pc : Nat} {ls : LL} {st : List Value} {M : Mem}
theorem fr_icmp_eq (X : CxB p s m args c G cc nL own) {x y : Int32} {off : Int} {tgt : Nat} (hd : decode cc pc = .ok (.if_icmp .eq off, 3)) (ht : (pc : Int) + off = (tgt : Int)) (KT : x = y → Fr p l e R s m args below meth c G cells slots Qf nL tgt ls st M) (KF : ¬ x = y → Fr p l e R s m args below meth c G cells slots Qf nL (pc + 3) ls st M) : Fr p l e R s m args below meth c G cells slots Qf nL pc ls (.int y :: .int x :: st) M :=
  fun H locs la hP hS hL => lv_icmp_eq X.1 X.2.1 hd ht (fun h => KT (h) H locs la hP hS hL) (fun h => KF (h) H locs la hP hS hL)
theorem fr_icmp_ne (X : CxB p s m args c G cc nL own) {x y : Int32} {off : Int} {tgt : Nat} (hd : decode cc pc = .ok (.if_icmp .ne off, 3)) (ht : (pc : Int) + off = (tgt : Int)) (KT : ¬ x = y → Fr p l e R s m args below meth c G cells slots Qf nL tgt ls st M) (KF : x = y → Fr p l e R s m args below meth c G cells slots Qf nL (pc + 3) ls st M) : Fr p l e R s m args below meth c G cells slots Qf nL pc ls (.int y :: .int x :: st) M :=
  fun H locs la hP hS hL => lv_icmp_ne X.1 X.2.1 hd ht (fun h => KT (h) H locs la hP hS hL) (fun h => KF (h) H locs la hP hS hL)
theorem fr_icmp_lt (X : CxB p s m args c G cc nL own) {x y : Int32} {off : Int} {tgt : Nat} (hd : decode cc pc = .ok (.if_icmp .lt off, 3)) (ht : (pc : Int) + off = (tgt : Int)) (KT : x < y → Fr p l e R s m args below meth c G cells slots Qf nL tgt ls st M) (KF : ¬ x < y → Fr p l e R s m args below meth c G cells slots Qf nL (pc + 3) ls st M) : Fr p l e R s m args below meth c G cells slots Qf nL pc ls (.int y :: .int x :: st) M :=
  fun H locs la hP hS hL => lv_icmp_lt X.1 X.2.1 hd ht (fun h => KT (h) H locs la hP hS hL) (fun h => KF (h) H locs la hP hS hL)
theorem fr_icmp_ge (X : CxB p s m args c G cc nL own) {x y : Int32} {off : Int} {tgt : Nat} (hd : decode cc pc = .ok (.if_icmp .ge off, 3)) (ht : (pc : Int) + off = (tgt : Int)) (KT : ¬ x < y → Fr p l e R s m args below meth c G cells slots Qf nL tgt ls st M) (KF : x < y → Fr p l e R s m args below meth c G cells slots Qf nL (pc + 3) ls st M) : Fr p l e R s m args below meth c G cells slots Qf nL pc ls (.int y :: .int x :: st) M :=
  fun H locs la hP hS hL => lv_icmp_ge X.1 X.2.1 hd ht (fun h => KT (Int32.not_lt.mpr h) H locs la hP hS hL) (fun h => KF (Int32.not_le.mp h) H locs la hP hS hL)
theorem fr_icmp_gt (X : CxB p s m args c G cc nL own) {x y : Int32} {off : Int} {tgt : Nat} (hd : decode cc pc = .ok (.if_icmp .gt off, 3)) (ht : (pc : Int) + off = (tgt : Int)) (KT : y < x → Fr p l e R s m args below meth c G cells slots Qf nL tgt ls st M) (KF : ¬ y < x → Fr p l e R s m args below meth c G cells slots Qf nL (pc + 3) ls st M) : Fr p l e R s m args below meth c G cells slots Qf nL pc ls (.int y :: .int x :: st) M :=
  fun H locs la hP hS hL => lv_icmp_gt X.1 X.2.1 hd ht (fun h => KT (h) H locs la hP hS hL) (fun h => KF (h) H locs la hP hS hL)
theorem fr_icmp_le (X : CxB p s m args c G cc nL own) {x y : Int32} {off : Int} {tgt : Nat} (hd : decode cc pc = .ok (.if_icmp .le off, 3)) (ht : (pc : Int) + off = (tgt : Int)) (KT : ¬ y < x → Fr p l e R s m args below meth c G cells slots Qf nL tgt ls st M) (KF : y < x → Fr p l e R s m args below meth c G cells slots Qf nL (pc + 3) ls st M) : Fr p l e R s m args below meth c G cells slots Qf nL pc ls (.int y :: .int x :: st) M :=
  fun H locs la hP hS hL => lv_icmp_le X.1 X.2.1 hd ht (fun h => KT (Int32.not_lt.mpr h) H locs la hP hS hL) (fun h => KF (Int32.not_le.mp h) H locs la hP hS hL)
theorem fr_if_eq (X : CxB p s m args c G cc nL own) {x : Int32} {off : Int} {tgt : Nat} (hd : decode cc pc = .ok (.ifCond .eq off, 3)) (ht : (pc : Int) + off = (tgt : Int)) (KT : x = 0 → Fr p l e R s m args below meth c G cells slots Qf nL tgt ls st M) (KF : ¬ x = 0 → Fr p l e R s m args below meth c G cells slots Qf nL (pc + 3) ls st M) : Fr p l e R s m args below meth c G cells slots Qf nL pc ls (.int x :: st) M :=
  fun H locs la hP hS hL => lv_if_eq X.1 X.2.1 hd ht (fun h => KT (h) H locs la hP hS hL) (fun h => KF (h) H locs la hP hS hL)
theorem fr_if_ne (X : CxB p s m args c G cc nL own) {x : Int32} {off : Int} {tgt : Nat} (hd : decode cc pc = .ok (.ifCond .ne off, 3)) (ht : (pc : Int) + off = (tgt : Int)) (KT : ¬ x = 0 → Fr p l e R s m args below meth c G cells slots Qf nL tgt ls st M) (KF : x = 0 → Fr p l e R s m args below meth c G cells slots Qf nL (pc + 3) ls st M) : Fr p l e R s m args below meth c G cells slots Qf nL pc ls (.int x :: st) M :=
  fun H locs la hP hS hL => lv_if_ne X.1 X.2.1 hd ht (fun h => KT (h) H locs la hP hS hL) (fun h => KF (h) H locs la hP hS hL)
theorem fr_if_lt (X : CxB p s m args c G cc nL own) {x : Int32} {off : Int} {tgt : Nat} (hd : decode cc pc = .ok (.ifCond .lt off, 3)) (ht : (pc : Int) + off = (tgt : Int)) (KT : x < 0 → Fr p l e R s m args below meth c G cells slots Qf nL tgt ls st M) (KF : ¬ x < 0 → Fr p l e R s m args below meth c G cells slots Qf nL (pc + 3) ls st M) : Fr p l e R s m args below meth c G cells slots Qf nL pc ls (.int x :: st) M :=
  fun H locs la hP hS hL => lv_if_lt X.1 X.2.1 hd ht (fun h => KT (h) H locs la hP hS hL) (fun h => KF (h) H locs la hP hS hL)
theorem fr_if_ge (X : CxB p s m args c G cc nL own) {x : Int32} {off : Int} {tgt : Nat} (hd : decode cc pc = .ok (.ifCond .ge off, 3)) (ht : (pc : Int) + off = (tgt : Int)) (KT : ¬ x < 0 → Fr p l e R s m args below meth c G cells slots Qf nL tgt ls st M) (KF : x < 0 → Fr p l e R s m args below meth c G cells slots Qf nL (pc + 3) ls st M) : Fr p l e R s m args below meth c G cells slots Qf nL pc ls (.int x :: st) M :=
  fun H locs la hP hS hL => lv_if_ge X.1 X.2.1 hd ht (fun h => KT (Int32.not_lt.mpr h) H locs la hP hS hL) (fun h => KF (Int32.not_le.mp h) H locs la hP hS hL)
theorem fr_if_gt (X : CxB p s m args c G cc nL own) {x : Int32} {off : Int} {tgt : Nat} (hd : decode cc pc = .ok (.ifCond .gt off, 3)) (ht : (pc : Int) + off = (tgt : Int)) (KT : 0 < x → Fr p l e R s m args below meth c G cells slots Qf nL tgt ls st M) (KF : ¬ 0 < x → Fr p l e R s m args below meth c G cells slots Qf nL (pc + 3) ls st M) : Fr p l e R s m args below meth c G cells slots Qf nL pc ls (.int x :: st) M :=
  fun H locs la hP hS hL => lv_if_gt X.1 X.2.1 hd ht (fun h => KT (h) H locs la hP hS hL) (fun h => KF (h) H locs la hP hS hL)
theorem fr_if_le (X : CxB p s m args c G cc nL own) {x : Int32} {off : Int} {tgt : Nat} (hd : decode cc pc = .ok (.ifCond .le off, 3)) (ht : (pc : Int) + off = (tgt : Int)) (KT : ¬ 0 < x → Fr p l e R s m args below meth c G cells slots Qf nL tgt ls st M) (KF : 0 < x → Fr p l e R s m args below meth c G cells slots Qf nL (pc + 3) ls st M) : Fr p l e R s m args below meth c G cells slots Qf nL pc ls (.int x :: st) M :=
  fun H locs la hP hS hL => lv_if_le X.1 X.2.1 hd ht (fun h => KT (Int32.not_lt.mpr h) H locs la hP hS hL) (fun h => KF (Int32.not_le.mp h) H locs la hP hS hL)
theorem fr_tswI (X : CxB p s m args c G cc nL own) {dflt lo hi off : Int} {offs : Array Int} {len tgt : Nat} {x v : Int32} (hd : decode cc pc = .ok (.tableswitch dflt lo hi offs, len)) (hx : x = v) (h1 : ¬ v.toInt < lo) (h2 : ¬ hi < v.toInt) (ho : offs[(v.toInt - lo).toNat]? = some off) (ht : (pc : Int) + off = (tgt : Int)) (K : Fr p l e R s m args below meth c G cells slots Qf nL tgt ls st M) : Fr p l e R s m args below meth c G cells slots Qf nL pc ls (.int x :: st) M := by
  subst hx
  exact fr_1 (fun _ _ _ _ k => lv_tableIn X.1 X.2.1 hd h1 h2 ho ht k) K
theorem fr_tswD (X : CxB p s m args c G cc nL own) {dflt lo hi : Int} {offs : Array Int} {len tgt : Nat} {x : Int32} (hd : decode cc pc = .ok (.tableswitch dflt lo hi offs, len)) (h : x.toInt < lo ∨ hi < x.toInt) (ht : (pc : Int) + dflt = (tgt : Int)) (K : Fr p l e R s m args below meth c G cells slots Qf nL tgt ls st M) : Fr p l e R s m args below meth c G cells slots Qf nL pc ls (.int x :: st) M :=
  fr_1 (fun _ _ _ _ k => lv_tableOut X.1 X.2.1 hd h ht k) K
theorem fr_lsw (X : CxB p s m args c G cc nL own) {dflt off : Int} {ps : Array (Int × Int)} {len tgt : Nat} {x : Int32} (hd : decode cc pc = .ok (.lookupswitch dflt ps, len)) (hp : (ps.toList.zip (ps.toList.drop 1)).all (fun (a, next) => a.1 < next.1) = true) (ho : Op.lookupswitch.offset ps.toList dflt x.toInt = off) (ht : (pc : Int) + off = (tgt : Int)) (K : Fr p l e R s m args below meth c G cells slots Qf nL tgt ls st M) : Fr p l e R s m args below meth c G cells slots Qf nL pc ls (.int x :: st) M :=
  fr_1 (fun _ _ _ _ k => lv_lookup X.1 X.2.1 hd hp ho ht k) K
theorem LH_ml {la : Array Slot} (X : CxB p s m args c G cc nL own) (h : LH la nL ls) : c.maxLocals = la.size := by rw [h.1]; exact X.2.2.1
theorem fr_max (X : CxB p s m args c G cc nL own) {idx : Nat} {x y : Int32} (hl : Cond.methodLink own idx Lib.Math.max.name ∈ gtbl) (hR : 1 ≤ R.frames ∧ 40 ≤ R.locals ∧ cells ≤ R.cells ∧ slots ≤ R.slots) (hw : Cond.static Lib.Math.max.name ∈ gtbl ∧ Cond.initialized "java/lang/Math" ∈ gtbl ∧ Cond.code Lib.Math.max.name Lib.Math.max.code 2 (some .int) ∈ gtbl) (hst : (st.map fun v => v.category).sum ≤ 20) (hd : decode cc pc = .ok (.invokestatic idx, 3)) (K : Fr p l e R s m args below meth c G cells slots Qf nL (pc + 3) ls (.int (if x < y then y else x) :: st) M) : Fr p l e R s m args below meth c G cells slots Qf nL pc ls (.int y :: .int x :: st) M :=
  fr_1 (fun _ _ _ hL k => va_mmax X.1 X.2.1 (LH_ml X hL) X.2.2.2.1 (X.2.2.2.2.1 _ hl) (X.2.2.2.2.1 _ hw.1) (X.2.2.2.2.1 _ hw.2.1) (X.2.2.2.2.1 _ hw.2.2) hR.1 (by omega) hR.2.2.1 hR.2.2.2 hd k) K
theorem fr_min (X : CxB p s m args c G cc nL own) {idx : Nat} {x y : Int32} (hl : Cond.methodLink own idx Lib.Math.min.name ∈ gtbl) (hR : 1 ≤ R.frames ∧ 40 ≤ R.locals ∧ cells ≤ R.cells ∧ slots ≤ R.slots) (hw : Cond.static Lib.Math.min.name ∈ gtbl ∧ Cond.initialized "java/lang/Math" ∈ gtbl ∧ Cond.code Lib.Math.min.name Lib.Math.min.code 2 (some .int) ∈ gtbl) (hst : (st.map fun v => v.category).sum ≤ 20) (hd : decode cc pc = .ok (.invokestatic idx, 3)) (K : Fr p l e R s m args below meth c G cells slots Qf nL (pc + 3) ls (.int (if y < x then y else x) :: st) M) : Fr p l e R s m args below meth c G cells slots Qf nL pc ls (.int y :: .int x :: st) M :=
  fr_1 (fun _ _ _ hL k => va_mmin X.1 X.2.1 (LH_ml X hL) X.2.2.2.1 (X.2.2.2.2.1 _ hl) (X.2.2.2.2.1 _ hw.1) (X.2.2.2.2.1 _ hw.2.1) (X.2.2.2.2.1 _ hw.2.2) hR.1 (by omega) hR.2.2.1 hR.2.2.2 hd k) K
theorem fr_abs (X : CxB p s m args c G cc nL own) {idx : Nat} {x : Int32} (hl : Cond.methodLink own idx Lib.Math.abs.name ∈ gtbl) (hR : 1 ≤ R.frames ∧ 40 ≤ R.locals ∧ cells ≤ R.cells ∧ slots ≤ R.slots) (hw : Cond.static Lib.Math.abs.name ∈ gtbl ∧ Cond.initialized "java/lang/Math" ∈ gtbl ∧ Cond.code Lib.Math.abs.name Lib.Math.abs.code 1 (some .int) ∈ gtbl) (hst : (st.map fun v => v.category).sum ≤ 20) (hd : decode cc pc = .ok (.invokestatic idx, 3)) (K : Fr p l e R s m args below meth c G cells slots Qf nL (pc + 3) ls (.int (if 0 ≤ x then x else 0 - x) :: st) M) : Fr p l e R s m args below meth c G cells slots Qf nL pc ls (.int x :: st) M :=
  fr_1 (fun _ _ _ hL k => va_mabs X.1 X.2.1 (LH_ml X hL) X.2.2.2.1 (X.2.2.2.2.1 _ hl) (X.2.2.2.2.1 _ hw.1) (X.2.2.2.2.1 _ hw.2.1) (X.2.2.2.2.1 _ hw.2.2) hR.1 (by omega) hR.2.2.1 hR.2.2.2 hd k) K
/-- System.arraycopy of int rows -/
theorem fr_acopy (X : CxB p s m args c G cc nL own) {idx a b : Nat} {sp dp n : Int32} (hl : Cond.methodLink own idx arraycopyName ∈ gtbl) (hR : 1 ≤ R.frames ∧ 40 ≤ R.locals) (hw : Cond.native arraycopyName ∈ gtbl ∧ Cond.static arraycopyName ∈ gtbl ∧ Cond.initialized "java/lang/System" ∈ gtbl) (hka : kd a = 20) (hkb : kd b = 20) (h1 : ¬ sp < 0) (h2 : ¬ dp < 0) (h3 : ¬ n < 0) (h4 : sp.toNatClampNeg + n.toNatClampNeg ≤ ln a) (h5 : dp.toNatClampNeg + n.toNatClampNeg ≤ ln b) (hst : (st.map fun v => v.category).sum ≤ 8) (hd : decode cc pc = .ok (.invokestatic idx, 3)) (K : Fr p l e R s m args below meth c G cells slots Qf nL (pc + 3) ls st (upC M a b sp.toNatClampNeg dp.toNatClampNeg n.toNatClampNeg)) : Fr p l e R s m args below meth c G cells slots Qf nL pc ls (.int n :: .int dp :: .ref (ad G b) :: .int sp :: .ref (ad G a) :: st) M := by
  intro H locs la hP hS hL
  have hml := LH_ml X hL
  obtain ⟨hx, hb, hml0, hown, hts, hK, hi⟩ := X
  have ha := kd_lt hka (by omega)
  have hb' := kd_lt hkb (by omega)
  refine va_copyi hx hb hml hown (hts _ hl) (hts _ hw.1) (hts _ hw.2.1) (hts _ hw.2.2) hK hP (wso_D hi M) hS a b 0 0 (by rw [wso_at G M ha, ent_num G M hka (by omega) (by omega)]) (by rw [wso_at G M hb', ent_num G M hkb (by omega) (by omega)]) rfl rfl rfl h1 h2 h3 h4 h5 (fun i _ => rfl) hR.1 (by
    have e : nativeFrameWords "java/lang/System" "arraycopy" 5 + 11 ≤ 32 := by decide +kernel
    omega) hd fun H1 locs1 hP1 _ hS1 => ?_
  rw [wso_set hb' (M' := upC M a b sp.toNatClampNeg dp.toNatClampNeg n.toNatClampNeg) (by
    rw [ent_num G _ hkb (by omega) (by omega)]
    have e : (upC M a b sp.toNatClampNeg dp.toNatClampNeg n.toNatClampNeg).1 b = va_cpy (M.1 a) (M.1 b) sp.toNatClampNeg dp.toNatClampNeg n.toNatClampNeg := by funext j; simp [upC]
    rw [e]) (fun q hq => ent_upC_ne G M a b _ _ _ hq)] at hP1
  exact K H1 locs1 la hP1 hS1 hL
/-- a method's contract, over the memory -/
abbrev MY : Type := MethodName × ByteArray × Nat × Option FieldType
def rmD (d : Nat) : Room := { frames := d, cells := 0, slots := 0, locals := 40 * d }
def wsY (Y : MY) : List Cond := Cond.code Y.1 Y.2.1 Y.2.2.1 Y.2.2.2 :: gtbl
def Qm (G : Glob) (Q : Option Value → Mem → Prop) : Array Value → State → Outcome → State → Prop := fun _ st oc t => (∃ (v : Option Value) (M' : Mem), oc = .returned v ∧ Q v M' ∧ va_P (gD G) vwCl (wso G M') t.heap) ∧ va_F (AG G) st t
def Bm (G : Glob) (M : Mem) : State → Prop := fun U => va_P (gD G) vwCl (wso G M) U.heap ∧ va_K (gD G) vwCl (tso G) U ∧ GI G
def WpM (G : Glob) (d : Nat) (Y : MY) (As : List Value) (M : Mem) (Q : Option Value → Mem → Prop) : Prop := Met (gl G) Y.1 (wsY Y) (rmD d) (va_Pc As (Bm G M)) (Qm G Q) 0 0 (AG G)
theorem Bm_blind (As : List Value) : FrameBlind (va_Pc As (Bm G M)) := fun a U g mk h => ⟨h.1, h.2.1, va_K.moved (u := U) (U := U.calling g mk a) (Vm.Alike.refl U.vm) h.2.2.1, h.2.2.2⟩
theorem WpM.mono {d : Nat} {Y : MY} {As : List Value} {Q Q' : Option Value → Mem → Prop} (h : WpM G d Y As M Q) (hq : ∀ v M', Q v M' → Q' v M') : WpM G d Y As M Q' := by
  intro p e ha hc hk s m args below hf happ hp hK
  obtain ⟨n, o, h1, h2, h3, ⟨⟨v, M', e1, e2, e3⟩, e4⟩, e5⟩ := h p e ha hc hk s m args below hf happ hp hK
  exact ⟨n, o, h1, h2, h3, ⟨⟨v, M', e1, hq _ _ e2, e3⟩, e4⟩, e5⟩
/-- behind a call -/
theorem fr_back {Q' : Option Value → Mem → Prop} {la : Array Slot} {H : Heap} {locs : List Loc} {st0 : List Value} {a : Array Value} (hr : va_Run p l e R s m args below meth c H locs cells slots 0 0 (F0 m pc la st0) st (Qm G Q' a) (AG G)) (hS : va_S (AG G) s.heap H locs) (hL : LH la nL ls) (K : ∀ v M', Q' v M' → Fr p l e R s m args below meth c G cells slots Qf nL (pc + 3) ls (v.toList ++ st) M') : W p l e R s m args below meth c H locs cells slots Qf (F0 m pc la st0) := by
  intro T hT X
  obtain ⟨v, st₀, t, T', L, h0, X', hL', e1, e2, ⟨⟨v', M', hv, hq, hP1⟩, hz, hk⟩, sg⟩ := hr T hT X
  cases hv
  rw [h0] at hz hk
  obtain ⟨t2, a1, b1⟩ := K v M' hq T'.heap (locs ++ L) la (by rw [e1]; exact hP1)
    ⟨Nat.le_trans hS.1 (by rw [e1]; exact hz), fun q h1 h2 => by rw [e1, hk q (Nat.lt_of_lt_of_le h1 hS.1) h2]; exact hS.2.1 q h1 h2, fun q hq => by
      rcases List.mem_append.mp hq with h | h
      · exact hS.2.2 q h
      · exact hL' q h⟩ hL T' rfl X'
  exact ⟨t2, sg t2 a1, b1⟩
/-- what is known of a method that is called: its words, how many parameters -/
def CM (Y : MY) (n : Nat) : Prop := Cond.code Y.1 Y.2.1 Y.2.2.1 Y.2.2.2 ∈ gtbl ∧ Cond.initialized Y.1.cls ∈ gtbl ∧ (Y.1.cls ≠ "java/lang/invoke/MethodHandle" ∧ Y.1.cls ≠ "java/lang/invoke/VarHandle" ∧ (parseMethodDescriptor Y.1.desc).map (fun d => d.parameters.length) = some n) ∧ Y.2.2.1 ≤ 21
def CMV (Y : MY) (n ci : Nat) : Prop := CM Y n ∧ Cond.instanceMethod Y.1 ∈ gtbl ∧ Cond.selects Y.1.cls Y.1 Y.1 ∈ gtbl ∧ (∃ (T : u_T) (N : Nat), vwCl[ci]? = some (Y.1.cls, T, N)) ∧ ci < 12
def CMS (Y : MY) (n : Nat) : Prop := CM Y n ∧ Cond.static Y.1 ∈ gtbl
theorem goodL : GoodIn gtbl gtbl := fun w h => ⟨h, tblG w h⟩
theorem goodY {Y : MY} {n : Nat} (h : CM Y n) : GoodIn gtbl (wsY Y) := fun w hw => by
  rcases List.mem_cons.mp hw with rfl | hw
  · exact goodL _ h.1
  · exact goodL _ hw
theorem fr_callV (X : CxB p s m args c G cc nL own) {a ci d n idx : Nat} {Y : MY} {As st0 : List Value} {Q' : Option Value → Mem → Prop} (hd : decode cc pc = .ok (.invokevirtual idx, 3)) (hk : kd a = ci) (hm : CMV Y n ci) (hl : Cond.methodLink own idx Y.1 ∈ gtbl) (hR : d + 1 ≤ R.frames ∧ 40 * (d + 1) ≤ R.locals ∧ cells ≤ R.cells ∧ slots ≤ R.slots) (hn : As.length = n) (hst : (st.map fun v => v.category).sum ≤ 8) (h0 : st0 = As.reverse ++ .ref (ad G a) :: st) (hG : gl G = l) (hC : WpM G d Y (.ref (ad G a) :: As) M Q') (K : ∀ v M', Q' v M' → Fr p l e R s m args below meth c G cells slots Qf nL (pc + 3) ls (v.toList ++ st) M') : Fr p l e R s m args below meth c G cells slots Qf nL pc ls st0 M := by
  subst hG
  intro H locs la hP hS hL
  obtain ⟨hx, hb, hml, hown, hts, hK, hi⟩ := X
  obtain ⟨hcm, hin, hse, ⟨T, N, hcl⟩, hci⟩ := hm
  have ha := kd_lt hk (by omega)
  have cb : CallB R s args own idx Y.1 Y.2.1 Y.2.2.1 Y.2.2.2 (wsY Y) (rmD d) 0 0 n := callB_of n hts (goodY hcm) rfl rfl rfl (hts _ hcm.2.1) (hts _ hl) hcm.2.2.1 ⟨hR.1, by have := hcm.2.2.2; have h2 := hR.2.1; show 8 + (Y.2.2.1 + 11) + 40 * d ≤ R.locals; omega⟩
  refine fr_back (va_runV (As := As) (rest := st) (b := ad G a) ⟨hx, hb, hml, hown, hts⟩ hC ⟨cb, hts _ hin, hts _ hse⟩ ⟨Bm_blind _, va_recv hK hP (ci := ci) (q0 := a) hcl (by rw [wso_at G M ha, ent_obj G M hk hci]), fun U hU hW => ⟨rfl, by rw [hU]; exact hP, va_K.moved hW.alike hK, hi⟩⟩ rfl hn hL.1 h0 (lv_room hst) hd ⟨hR.2.2.1, hR.2.2.2⟩) hS hL K
theorem fr_callS (X : CxB p s m args c G cc nL own) {d n idx : Nat} {Y : MY} {As st0 : List Value} {Q' : Option Value → Mem → Prop} (hd : decode cc pc = .ok (.invokestatic idx, 3)) (hm : CMS Y n) (hl : Cond.methodLink own idx Y.1 ∈ gtbl) (hR : d + 1 ≤ R.frames ∧ 40 * (d + 1) ≤ R.locals ∧ cells ≤ R.cells ∧ slots ≤ R.slots) (hn : As.length = n) (hst : (st.map fun v => v.category).sum ≤ 8) (h0 : st0 = As.reverse ++ st) (hG : gl G = l) (hC : WpM G d Y As M Q') (K : ∀ v M', Q' v M' → Fr p l e R s m args below meth c G cells slots Qf nL (pc + 3) ls (v.toList ++ st) M') : Fr p l e R s m args below meth c G cells slots Qf nL pc ls st0 M := by
  subst hG
  intro H locs la hP hS hL
  obtain ⟨hx, hb, hml, hown, hts, hK, hi⟩ := X
  obtain ⟨hcm, hin⟩ := hm
  have cb : CallB R s args own idx Y.1 Y.2.1 Y.2.2.1 Y.2.2.2 (wsY Y) (rmD d) 0 0 n := callB_of n hts (goodY hcm) rfl rfl rfl (hts _ hcm.2.1) (hts _ hl) hcm.2.2.1 ⟨hR.1, by have := hcm.2.2.2; have h2 := hR.2.1; show 8 + (Y.2.2.1 + 11) + 40 * d ≤ R.locals; omega⟩
  refine fr_back (va_runS (As := As) (rest := st) ⟨hx, hb, hml, hown, hts⟩ hC ⟨cb, hts _ hin⟩ ⟨Bm_blind _, fun U hU hW => ⟨rfl, by rw [hU]; exact hP, va_K.moved hW.alike hK, hi⟩⟩ rfl hn hL.1 h0 (lv_room hst) hd ⟨hR.2.2.1, hR.2.2.2⟩) hS hL K
end FR3
