section FR2
variable {p : Program} {l : Launch} {e : Env} {R : Room} {s : State} {m : MethodId} {args : Array Value} {below : List Frame} {meth : Method} {c : Code} {cells slots : Nat} {Qf : State → Prop}
variable {G : Glob} {nL : Nat} {cc : ByteArray} {own : String} {pc : Nat} {ls : LL} {st : List Value} {M : Mem}
theorem fr_getI (X : CxB p s m args c G cc nL own) {a ci k idx : Nat} {r nm ds : String} (hd : decode cc pc = .ok (.getfield idx, 3)) (hk : kd a = ci) (hf : FB ci k 0 r nm ds) (hl : Cond.fieldLink own idx r nm ds ∈ gtbl) (K : Fr p l e R s m args below meth c G cells slots Qf nL (pc + 3) ls (.int (M.1 a k) :: st) M) : Fr p l e R s m args below meth c G cells slots Qf nL pc ls (.ref (ad G a) :: st) M := by
  obtain ⟨hx, hb, hml, hown, hts, hK, hi⟩ := X
  obtain ⟨C, T, N, h1, h2, h3, rfl, rfl, rfl, h4, h5⟩ := hf
  intro H locs la hP hS hL
  exact va_get hx hb hts h2 hown hK hP a (by rw [wso_at G M (kd_lt hk (by omega)), ent_obj G M hk h5]) h1 k h3 (hts _ hl) (fun x h => h) (mapIdx_at h4) hd (K H locs la hP hS hL)
theorem fr_getL (X : CxB p s m args c G cc nL own) {a ci k idx : Nat} {r nm ds : String} (hd : decode cc pc = .ok (.getfield idx, 3)) (hk : kd a = ci) (hf : FB ci k 1 r nm ds) (hl : Cond.fieldLink own idx r nm ds ∈ gtbl) (K : Fr p l e R s m args below meth c G cells slots Qf nL (pc + 3) ls (.long (M.2 a k) :: st) M) : Fr p l e R s m args below meth c G cells slots Qf nL pc ls (.ref (ad G a) :: st) M := by
  obtain ⟨hx, hb, hml, hown, hts, hK, hi⟩ := X
  obtain ⟨C, T, N, h1, h2, h3, rfl, rfl, rfl, h4, h5⟩ := hf
  intro H locs la hP hS hL
  exact va_get hx hb hts h2 hown hK hP a (by rw [wso_at G M (kd_lt hk (by omega)), ent_obj G M hk h5]) h1 k h3 (hts _ hl) (fun x h => h) (mapIdx_at h4) hd (K H locs la hP hS hL)
theorem fr_getR (X : CxB p s m args c G cc nL own) {a b ci k idx : Nat} {r nm ds : String} (hd : decode cc pc = .ok (.getfield idx, 3)) (hk : kd a = ci) (hr : rf a k = b) (hf : FB ci k 2 r nm ds) (hl : Cond.fieldLink own idx r nm ds ∈ gtbl) (K : Fr p l e R s m args below meth c G cells slots Qf nL (pc + 3) ls (.ref (ad G b) :: st) M) : Fr p l e R s m args below meth c G cells slots Qf nL pc ls (.ref (ad G a) :: st) M := by
  obtain ⟨hx, hb, hml, hown, hts, hK, hi⟩ := X
  obtain ⟨C, T, N, h1, h2, h3, rfl, rfl, rfl, h4, h5⟩ := hf
  subst hr
  intro H locs la hP hS hL
  exact va_get hx hb hts h2 hown hK hP a (by rw [wso_at G M (kd_lt hk (by omega)), ent_obj G M hk h5]) h1 k h3 (hts _ hl) (fun x h => h) (mapIdx_at h4) hd (K H locs la hP hS hL)
theorem fr_putI (X : CxB p s m args c G cc nL own) {a ci k idx : Nat} {r nm ds : String} {v : Int32} (hd : decode cc pc = .ok (.putfield idx, 3)) (hk : kd a = ci) (hf : FP ci k 0 r nm ds) (hl : Cond.fieldLink own idx r nm ds ∈ gtbl) (K : Fr p l e R s m args below meth c G cells slots Qf nL (pc + 3) ls st (upI M a k v)) : Fr p l e R s m args below meth c G cells slots Qf nL pc ls (.int v :: .ref (ad G a) :: st) M := by
  obtain ⟨hx, hb, hml, hown, hts, hK, hi⟩ := X
  obtain ⟨C, T, N, ty0, h1, h2, h3, rfl, rfl, rfl, h4, h5, h6, h7, h8, h9, h10⟩ := hf
  intro H locs la hP hS hL
  have ha := kd_lt hk (by omega)
  refine va_put hx hb hts h2 ty0 h6 h7 hown hK hP (wso_D hi M) hS a (by rw [wso_at G M ha, ent_obj G M hk h5]) h1 k h3 (hts _ hl) (fun x h => h) h8 h9 (v := .int v) rfl rfl (by rw [List.length_mapIdx, ← h10]; exact h3) hd fun H1 locs1 hP1 _ hS1 => ?_
  rw [wso_set ha (M' := upI M a k v) (by rw [ent_obj G _ hk h5, mapIdx_upI h4]) (fun b hb => ent_upI_ne G M a k v hb)] at hP1
  exact K H1 locs1 la hP1 hS1 hL
theorem fr_putL (X : CxB p s m args c G cc nL own) {a ci k idx : Nat} {r nm ds : String} {v : Int64} (hd : decode cc pc = .ok (.putfield idx, 3)) (hk : kd a = ci) (hf : FP ci k 1 r nm ds) (hl : Cond.fieldLink own idx r nm ds ∈ gtbl) (K : Fr p l e R s m args below meth c G cells slots Qf nL (pc + 3) ls st (upL M a k v)) : Fr p l e R s m args below meth c G cells slots Qf nL pc ls (.long v :: .ref (ad G a) :: st) M := by
  obtain ⟨hx, hb, hml, hown, hts, hK, hi⟩ := X
  obtain ⟨C, T, N, ty0, h1, h2, h3, rfl, rfl, rfl, h4, h5, h6, h7, h8, h9, h10⟩ := hf
  intro H locs la hP hS hL
  have ha := kd_lt hk (by omega)
  refine va_put hx hb hts h2 ty0 h6 h7 hown hK hP (wso_D hi M) hS a (by rw [wso_at G M ha, ent_obj G M hk h5]) h1 k h3 (hts _ hl) (fun x h => h) h8 h9 (v := .long v) rfl rfl (by rw [List.length_mapIdx, ← h10]; exact h3) hd fun H1 locs1 hP1 _ hS1 => ?_
  rw [wso_set ha (M' := upL M a k v) (by rw [ent_obj G _ hk h5, mapIdx_upL h4]) (fun b hb => ent_upL_ne G M a k v hb)] at hP1
  exact K H1 locs1 la hP1 hS1 hL
theorem fr_iald (X : CxB p s m args c G cc nL own) {a n : Nat} {i : Int32} (hd : decode cc pc = .ok (.iaload, 1)) (hk : kd a = 20) (hn : ln a = n) (hin : vp_in i n) (K : Fr p l e R s m args below meth c G cells slots Qf nL (pc + 1) ls (.int (M.1 a i.toNatClampNeg) :: st) M) : Fr p l e R s m args below meth c G cells slots Qf nL pc ls (.int i :: .ref (ad G a) :: st) M := by
  obtain ⟨hx, hb, hml, hown, hts, hK, hi⟩ := X
  subst hn
  intro H locs la hP hS hL
  exact va_iald hx hb hK hP a 0 (by rw [wso_at G M (kd_lt hk (by omega)), ent_num G M hk (by omega) (by omega)]) rfl hin hd (K H locs la hP hS hL)
theorem fr_iast (X : CxB p s m args c G cc nL own) {a n : Nat} {i v : Int32} (hd : decode cc pc = .ok (.iastore, 1)) (hk : kd a = 20) (hn : ln a = n) (hin : vp_in i n) (K : Fr p l e R s m args below meth c G cells slots Qf nL (pc + 1) ls st (upI M a i.toNatClampNeg v)) : Fr p l e R s m args below meth c G cells slots Qf nL pc ls (.int v :: .int i :: .ref (ad G a) :: st) M := by
  obtain ⟨hx, hb, hml, hown, hts, hK, hi⟩ := X
  subst hn
  intro H locs la hP hS hL
  have ha := kd_lt hk (by omega)
  refine va_iast hx hb hK hP (wso_D hi M) hS a 0 (by rw [wso_at G M ha, ent_num G M hk (by omega) (by omega)]) rfl hin hd fun H1 locs1 hP1 _ hS1 => ?_
  rw [wso_set ha (M' := upI M a i.toNatClampNeg v) (by rw [ent_num G _ hk (by omega) (by omega), upd_upI]) (fun b hb => ent_upI_ne G M a _ v hb)] at hP1
  exact K H1 locs1 la hP1 hS1 hL
theorem fr_aald (X : CxB p s m args c G cc nL own) {a n b ci : Nat} {i : Int32} (hd : decode cc pc = .ok (.aaload, 1)) (hk : kd a = ci) (hc : ci = 22 ∨ ci = 23 ∨ ci = 24) (hn : ln a = n) (hin : vp_in i n) (hr : rf a i.toNatClampNeg = b) (K : Fr p l e R s m args below meth c G cells slots Qf nL (pc + 1) ls (.ref (ad G b) :: st) M) : Fr p l e R s m args below meth c G cells slots Qf nL pc ls (.int i :: .ref (ad G a) :: st) M := by
  obtain ⟨hx, hb, hml, hown, hts, hK, hi⟩ := X
  subst hn
  subst hr
  intro H locs la hP hS hL
  have hlt : i.toNatClampNeg < ln a := Nat.not_le.mp fun q => hin (Or.inr q)
  have hcell : H[ad G a]? = some (arrV (gc G ci) (ln a) (fun j => va_rf (some (ad G (rf a j))))) := by
    have h := hP a _ (wso_at G M (kd_lt hk (by omega)))
    rw [ent_ref G M hk (by omega)] at h
    exact h
  have key : ∀ ty : FieldType, (ty.isReference = true) → ArrOfT s (gc G ci) ty → W p l e R s m args below meth c H locs cells slots Qf (F0 m pc la (.int i :: .ref (ad G a) :: st)) := fun ty hty hA =>
    W.aald (v := .ref (ad G (rf a i.toNatClampNeg))) (ty := ty) hx hb hcell (hA _ _) hty (fun q => by cases q) (by show ¬ (i < 0 ∨ (arrV _ _ _).slots.size ≤ _); rw [arrV_size]; exact hin) (by show (arrV _ _ _).slots[_]? = _; rw [arrV_read _ _ hlt]; rfl) rfl rfl hd (K H locs la hP hS hL)
  rcases hc with rfl | rfl | rfl
  · exact key _ rfl (hK.2 1 _ rfl).1
  · exact key _ rfl (hK.2 2 _ rfl).1
  · exact key _ rfl (hK.2 3 _ rfl).1
theorem fr_alen (X : CxB p s m args c G cc nL own) {a ci : Nat} {v : Int32} (hd : decode cc pc = .ok (.arraylength, 1)) (hk : kd a = ci) (hc : ci = 20 ∨ ci = 24) (hv : Int32.ofNat (ln a) = v) (K : Fr p l e R s m args below meth c G cells slots Qf nL (pc + 1) ls (.int v :: st) M) : Fr p l e R s m args below meth c G cells slots Qf nL pc ls (.ref (ad G a) :: st) M := by
  obtain ⟨hx, hb, hml, hown, hts, hK, hi⟩ := X
  intro H locs la hP hS hL
  rcases hc with rfl | rfl
  · exact va_alen hx hb hK hP a 0 (by rw [wso_at G M (kd_lt hk (by omega)), ent_num G M hk (by omega) (by omega)]) rfl hv hd (K H locs la hP hS hL)
  · exact va_alen hx hb hK hP a 3 (by rw [wso_at G M (kd_lt hk (by omega)), ent_ref G M hk (by omega)]) rfl hv hd (K H locs la hP hS hL)
theorem fr_iadd (X : CxB p s m args c G cc nL own) {x y : Int32} (hd : decode cc pc = .ok (.iadd, 1)) (K : Fr p l e R s m args below meth c G cells slots Qf nL (pc + 1) ls (.int (x + y) :: st) M) : Fr p l e R s m args below meth c G cells slots Qf nL pc ls (.int y :: .int x :: st) M := fr_1 (fun _ _ _ _ k => lv_iadd X.1 X.2.1 hd k) K
theorem fr_isub (X : CxB p s m args c G cc nL own) {x y : Int32} (hd : decode cc pc = .ok (.isub, 1)) (K : Fr p l e R s m args below meth c G cells slots Qf nL (pc + 1) ls (.int (x - y) :: st) M) : Fr p l e R s m args below meth c G cells slots Qf nL pc ls (.int y :: .int x :: st) M := fr_1 (fun _ _ _ _ k => lv_isub X.1 X.2.1 hd k) K
theorem fr_imul (X : CxB p s m args c G cc nL own) {x y : Int32} (hd : decode cc pc = .ok (.imul, 1)) (K : Fr p l e R s m args below meth c G cells slots Qf nL (pc + 1) ls (.int (x * y) :: st) M) : Fr p l e R s m args below meth c G cells slots Qf nL pc ls (.int y :: .int x :: st) M := fr_1 (fun _ _ _ _ k => lv_imul X.1 X.2.1 hd k) K
theorem fr_iand (X : CxB p s m args c G cc nL own) {x y : Int32} (hd : decode cc pc = .ok (.iand, 1)) (K : Fr p l e R s m args below meth c G cells slots Qf nL (pc + 1) ls (.int (x &&& y) :: st) M) : Fr p l e R s m args below meth c G cells slots Qf nL pc ls (.int y :: .int x :: st) M := fr_1 (fun _ _ _ _ k => lv_iand X.1 X.2.1 hd k) K
theorem fr_ior (X : CxB p s m args c G cc nL own) {x y : Int32} (hd : decode cc pc = .ok (.ior, 1)) (K : Fr p l e R s m args below meth c G cells slots Qf nL (pc + 1) ls (.int (x ||| y) :: st) M) : Fr p l e R s m args below meth c G cells slots Qf nL pc ls (.int y :: .int x :: st) M := fr_1 (fun _ _ _ _ k => lv_ior X.1 X.2.1 hd k) K
theorem fr_ixor (X : CxB p s m args c G cc nL own) {x y : Int32} (hd : decode cc pc = .ok (.ixor, 1)) (K : Fr p l e R s m args below meth c G cells slots Qf nL (pc + 1) ls (.int (x ^^^ y) :: st) M) : Fr p l e R s m args below meth c G cells slots Qf nL pc ls (.int y :: .int x :: st) M := fr_1 (fun _ _ _ _ k => lv_ixor X.1 X.2.1 hd k) K
theorem fr_ishl (X : CxB p s m args c G cc nL own) {x y : Int32} (hd : decode cc pc = .ok (.ishl, 1)) (K : Fr p l e R s m args below meth c G cells slots Qf nL (pc + 1) ls (.int (x <<< (y &&& 31)) :: st) M) : Fr p l e R s m args below meth c G cells slots Qf nL pc ls (.int y :: .int x :: st) M := fr_1 (fun _ _ _ _ k => lv_ishl X.1 X.2.1 hd k) K
theorem fr_ishr (X : CxB p s m args c G cc nL own) {x y : Int32} (hd : decode cc pc = .ok (.ishr, 1)) (K : Fr p l e R s m args below meth c G cells slots Qf nL (pc + 1) ls (.int (x >>> (y &&& 31)) :: st) M) : Fr p l e R s m args below meth c G cells slots Qf nL pc ls (.int y :: .int x :: st) M := fr_1 (fun _ _ _ _ k => lv_ishr X.1 X.2.1 hd k) K
theorem fr_idiv (X : CxB p s m args c G cc nL own) {x y : Int32} (hd : decode cc pc = .ok (.idiv, 1)) (hne : ¬ y = 0) (K : Fr p l e R s m args below meth c G cells slots Qf nL (pc + 1) ls (.int (x / y) :: st) M) : Fr p l e R s m args below meth c G cells slots Qf nL pc ls (.int y :: .int x :: st) M := fr_1 (fun _ _ _ _ k => lv_idiv X.1 X.2.1 hd hne k) K
theorem fr_irem (X : CxB p s m args c G cc nL own) {x y : Int32} (hd : decode cc pc = .ok (.irem, 1)) (hne : ¬ y = 0) (K : Fr p l e R s m args below meth c G cells slots Qf nL (pc + 1) ls (.int (x - x / y * y) :: st) M) : Fr p l e R s m args below meth c G cells slots Qf nL pc ls (.int y :: .int x :: st) M := fr_1 (fun _ _ _ _ k => lv_irem X.1 X.2.1 hd hne k) K
theorem fr_ineg (X : CxB p s m args c G cc nL own) {x : Int32} (hd : decode cc pc = .ok (.ineg, 1)) (K : Fr p l e R s m args below meth c G cells slots Qf nL (pc + 1) ls (.int (-x) :: st) M) : Fr p l e R s m args below meth c G cells slots Qf nL pc ls (.int x :: st) M := fr_1 (fun _ _ _ _ k => lv_ineg X.1 X.2.1 hd k) K
theorem fr_ladd (X : CxB p s m args c G cc nL own) {x y : Int64} (hd : decode cc pc = .ok (.ladd, 1)) (K : Fr p l e R s m args below meth c G cells slots Qf nL (pc + 1) ls (.long (x + y) :: st) M) : Fr p l e R s m args below meth c G cells slots Qf nL pc ls (.long y :: .long x :: st) M := fr_1 (fun _ _ _ _ k => lv_ladd X.1 X.2.1 hd k) K
theorem fr_lmul (X : CxB p s m args c G cc nL own) {x y : Int64} (hd : decode cc pc = .ok (.lmul, 1)) (K : Fr p l e R s m args below meth c G cells slots Qf nL (pc + 1) ls (.long (x * y) :: st) M) : Fr p l e R s m args below meth c G cells slots Qf nL pc ls (.long y :: .long x :: st) M := fr_1 (fun _ _ _ _ k => lv_lmul X.1 X.2.1 hd k) K
theorem fr_ldiv (X : CxB p s m args c G cc nL own) {x y : Int64} (hd : decode cc pc = .ok (.ldiv, 1)) (hne : ¬ y = 0) (K : Fr p l e R s m args below meth c G cells slots Qf nL (pc + 1) ls (.long (x / y) :: st) M) : Fr p l e R s m args below meth c G cells slots Qf nL pc ls (.long y :: .long x :: st) M := fr_1 (fun _ _ _ _ k => lv_ldiv X.1 X.2.1 hd hne k) K
theorem fr_lrem (X : CxB p s m args c G cc nL own) {x y : Int64} (hd : decode cc pc = .ok (.lrem, 1)) (hne : ¬ y = 0) (K : Fr p l e R s m args below meth c G cells slots Qf nL (pc + 1) ls (.long (x - x / y * y) :: st) M) : Fr p l e R s m args below meth c G cells slots Qf nL pc ls (.long y :: .long x :: st) M := fr_1 (fun _ _ _ _ k => lv_lrem X.1 X.2.1 hd hne k) K
theorem fr_lcmp (X : CxB p s m args c G cc nL own) {x y : Int64} (hd : decode cc pc = .ok (.lcmp, 1)) (K : Fr p l e R s m args below meth c G cells slots Qf nL (pc + 1) ls (.int (lg_cmp x y) :: st) M) : Fr p l e R s m args below meth c G cells slots Qf nL pc ls (.long y :: .long x :: st) M := fr_1 (fun _ _ _ _ k => W.lcmp X.1 X.2.1 hd k) K
theorem fr_i2l (X : CxB p s m args c G cc nL own) {x : Int32} (hd : decode cc pc = .ok (.i2l, 1)) (K : Fr p l e R s m args below meth c G cells slots Qf nL (pc + 1) ls (.long x.toInt64 :: st) M) : Fr p l e R s m args below meth c G cells slots Qf nL pc ls (.int x :: st) M := fr_1 (fun _ _ _ _ k => lv_i2l X.1 X.2.1 hd rfl k) K
theorem fr_l2i (X : CxB p s m args c G cc nL own) {x : Int64} (hd : decode cc pc = .ok (.l2i, 1)) (K : Fr p l e R s m args below meth c G cells slots Qf nL (pc + 1) ls (.int x.toInt32 :: st) M) : Fr p l e R s m args below meth c G cells slots Qf nL pc ls (.long x :: st) M := fr_1 (fun _ _ _ _ k => lv_l2i X.1 X.2.1 hd rfl k) K
theorem fr_i2b (X : CxB p s m args c G cc nL own) {x : Int32} (hd : decode cc pc = .ok (.i2b, 1)) (K : Fr p l e R s m args below meth c G cells slots Qf nL (pc + 1) ls (.int x.toInt8.toInt32 :: st) M) : Fr p l e R s m args below meth c G cells slots Qf nL pc ls (.int x :: st) M := fr_1 (fun _ _ _ _ k => lv_i2b X.1 X.2.1 hd rfl k) K
theorem fr_iushr (X : CxB p s m args c G cc nL own) {x y : Int32} (hd : decode cc pc = .ok (.iushr, 1)) (K : Fr p l e R s m args below meth c G cells slots Qf nL (pc + 1) ls (.int ((x.toUInt32 >>> (y.toUInt32 &&& Int32.toUInt32 31)).toInt32) :: st) M) : Fr p l e R s m args below meth c G cells slots Qf nL pc ls (.int y :: .int x :: st) M := fr_1 (fun _ _ _ _ k => lv_iushr X.1 X.2.1 hd rfl k) K
theorem fr_dup (X : CxB p s m args c G cc nL own) {v : Value} (hd : decode cc pc = .ok (.dup, 1)) (hv : v.category = 1) (K : Fr p l e R s m args below meth c G cells slots Qf nL (pc + 1) ls (v :: v :: st) M) : Fr p l e R s m args below meth c G cells slots Qf nL pc ls (v :: st) M := fr_1 (fun _ _ _ _ k => lv_dup X.1 X.2.1 hd hv k) K
theorem fr_dup2 (X : CxB p s m args c G cc nL own) {v w : Value} (hd : decode cc pc = .ok (.dup2, 1)) (hv : v.category = 1) (hw : w.category = 1) (K : Fr p l e R s m args below meth c G cells slots Qf nL (pc + 1) ls (v :: w :: v :: w :: st) M) : Fr p l e R s m args below meth c G cells slots Qf nL pc ls (v :: w :: st) M := fr_1 (fun _ _ _ _ k => lv_dup2_11 X.1 X.2.1 hd hv hw k) K
theorem fr_goto (X : CxB p s m args c G cc nL own) {off : Int} {tgt : Nat} (hd : decode cc pc = .ok (.goto off, 3)) (ht : (pc : Int) + off = (tgt : Int)) (K : Fr p l e R s m args below meth c G cells slots Qf nL tgt ls st M) : Fr p l e R s m args below meth c G cells slots Qf nL pc ls st M := fr_1 (fun _ _ _ _ k => lv_goto X.1 X.2.1 hd ht k) K
end FR2
