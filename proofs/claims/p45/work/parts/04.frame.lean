/-! the world of all the objects out of a memory; a frame's judgement over logical numbers -/
def upI (M : Mem) (a k : Nat) (v : Int32) : Mem := (fun b j => if b = a ∧ j = k then v else M.1 b j, M.2)
def upL (M : Mem) (a k : Nat) (v : Int64) : Mem := (M.1, fun b j => if b = a ∧ j = k then v else M.2 b j)
def upC (M : Mem) (a b sp dp n : Nat) : Mem := (fun q j => if q = b then va_cpy (M.1 a) (M.1 b) sp dp n j else M.1 q j, M.2)
theorem upI_at (M : Mem) (a k : Nat) (v : Int32) (b j : Nat) : (upI M a k v).1 b j = if b = a ∧ j = k then v else M.1 b j := rfl
theorem upL_at (M : Mem) (a k : Nat) (v : Int64) (b j : Nat) : (upL M a k v).2 b j = if b = a ∧ j = k then v else M.2 b j := rfl
theorem upI_2 (M : Mem) (a k : Nat) (v : Int32) : (upI M a k v).2 = M.2 := rfl
theorem upL_1 (M : Mem) (a k : Nat) (v : Int64) : (upL M a k v).1 = M.1 := rfl
def fv (G : Glob) (M : Mem) (a k t : Nat) : Value := match t with
  | 0 => .int (M.1 a k)
  | 1 => .long (M.2 a k)
  | _ => .ref (ad G (rf a k))
def ent (G : Glob) (M : Mem) (a : Nat) : va_E :=
  if kd a < 12 then .inr (kd a, (fks (kd a)).mapIdx (fun k t => fv G M a k t))
  else if kd a < 22 then .inl (gc G (kd a), ln a, .inl (M.1 a))
  else .inl (gc G (kd a), ln a, .inr (.inr (.inr (.inr (fun i => some (ad G (rf a i)))))))
def wso (G : Glob) (M : Mem) : va_W := (List.range nT).map fun a => (ad G a, ent G M a)
def tso (G : Glob) : List (ClassId × FieldType) := [(gc G 20, .int), (gc G 22, .object "DrawerGloves$Deeds"), (gc G 23, .object "DrawerGloves$Glove"), (gc G 24, .array .int)]
def AG (G : Glob) : Nat → Prop := fun q => ∃ a, a < nT ∧ q = ad G a
def GI (G : Glob) : Prop := ∀ i j, i < nT → j < nT → ad G i = ad G j → i = j
theorem wso_len (G : Glob) (M : Mem) : (wso G M).length = nT := by simp [wso]
theorem wso_at (G : Glob) (M : Mem) {a : Nat} (h : a < nT) : (wso G M)[a]? = some (ad G a, ent G M a) := by
  unfold wso
  rw [List.getElem?_map, List.getElem?_range h]
  rfl
theorem wso_set {G : Glob} {M M' : Mem} {a : Nat} {e : va_E} (h : a < nT) (he : ent G M' a = e) (hne : ∀ b, b ≠ a → ent G M' b = ent G M b) : (wso G M).set a (ad G a, e) = wso G M' := by
  apply List.ext_getElem?
  intro j
  by_cases hj : j < nT
  · by_cases hja : j = a
    · subst hja
      rw [List.getElem?_set_self (by rw [wso_len]; exact h), wso_at G M' h, he]
    · rw [List.getElem?_set_ne (Ne.symm hja), wso_at G M hj, wso_at G M' hj, hne j hja]
  · rw [List.getElem?_eq_none (by rw [List.length_set, wso_len]; omega), List.getElem?_eq_none (by rw [wso_len]; omega)]
theorem wso_D {G : Glob} (hi : GI G) (M : Mem) : va_D (AG G) (wso G M) := by
  have key : ∀ (k : Nat) (q : Nat × va_E), (wso G M)[k]? = some q → k < nT ∧ q.1 = ad G k := by
    intro k q hk
    have h := (List.getElem?_eq_some_iff.mp hk).1
    rw [wso_len] at h
    rw [wso_at G M h] at hk
    cases hk
    exact ⟨h, rfl⟩
  refine ⟨fun i j p q hi' hj' hpq => ?_, fun k q hk => ?_⟩
  · obtain ⟨a1, a2⟩ := key i p hi'
    obtain ⟨b1, b2⟩ := key j q hj'
    exact hi i j a1 b1 (by rw [← a2, ← b2]; exact hpq)
  · obtain ⟨a1, a2⟩ := key k q hk
    exact ⟨k, a1, a2⟩
theorem kd_lt {a c : Nat} (h : kd a = c) (hc : c < 99) : a < nT := by
  rcases Nat.lt_or_ge a nT with q | q
  · exact q
  · exfalso
    have h2 : kd a = 99 := by
      unfold kd
      rw [List.getD_eq_getElem?_getD, List.getElem?_eq_none (show kdL.length ≤ a from q)]
      rfl
    omega
theorem ent_obj (G : Glob) (M : Mem) {a c : Nat} (h : kd a = c) (hc : c < 12) : ent G M a = .inr (c, (fks c).mapIdx (fun k t => fv G M a k t)) := by
  subst h
  unfold ent
  rw [if_pos hc]
theorem ent_num (G : Glob) (M : Mem) {a c : Nat} (h : kd a = c) (hc : 12 ≤ c) (hc2 : c < 22) : ent G M a = .inl (gc G c, ln a, .inl (M.1 a)) := by
  subst h
  unfold ent
  rw [if_neg (by omega), if_pos hc2]
theorem ent_ref (G : Glob) (M : Mem) {a c : Nat} (h : kd a = c) (hc : 22 ≤ c) : ent G M a = .inl (gc G c, ln a, .inr (.inr (.inr (.inr (fun i => some (ad G (rf a i))))))) := by
  subst h
  unfold ent
  rw [if_neg (by omega), if_neg (by omega)]
theorem ent_upI_ne (G : Glob) (M : Mem) (a k : Nat) (v : Int32) {b : Nat} (h : b ≠ a) : ent G (upI M a k v) b = ent G M b := by
  have e : (upI M a k v).1 b = M.1 b := by funext j; simp [upI, h]
  have e2 : ∀ k t, fv G (upI M a k v) b k t = fv G M b k t := by
    intro k t
    unfold fv
    split <;> simp [upI, h]
  unfold ent
  rw [e]
  have e3 : (fun k' t => fv G (upI M a k v) b k' t) = (fun k' t => fv G M b k' t) := by
    funext k' t
    unfold fv
    split <;> simp [upI, h]
  rw [e3]
theorem ent_upL_ne (G : Glob) (M : Mem) (a k : Nat) (v : Int64) {b : Nat} (h : b ≠ a) : ent G (upL M a k v) b = ent G M b := by
  have e3 : (fun k' t => fv G (upL M a k v) b k' t) = (fun k' t => fv G M b k' t) := by
    funext k' t
    unfold fv
    split <;> simp [upL, h]
  unfold ent
  rw [e3]
  rfl
theorem ent_upC_ne (G : Glob) (M : Mem) (a0 a sp dp n : Nat) {b : Nat} (h : b ≠ a) : ent G (upC M a0 a sp dp n) b = ent G M b := by
  have e : (upC M a0 a sp dp n).1 b = M.1 b := by funext j; simp [upC, h]
  have e3 : (fun k' t => fv G (upC M a0 a sp dp n) b k' t) = (fun k' t => fv G M b k' t) := by
    funext k' t
    unfold fv
    split <;> simp [upC, h]
  unfold ent
  rw [e, e3]
/-! locals: a list, none where nothing is known -/
abbrev LL : Type := List (Option Value)
def LH (la : Array Slot) (n : Nat) (ls : LL) : Prop := la.size = n ∧ lv_wf la ∧ ∀ (i : Nat) (v : Value), ls[i]? = some (some v) → la[i]? = some (.val v)
def lass (ls : LL) : List (Nat × Value) := (List.range ls.length).filterMap fun i => match ls[i]? with
  | some (some v) => some (i, v)
  | _ => none
theorem lass_mem {ls : LL} {q : Nat × Value} : q ∈ lass ls ↔ ls[q.1]? = some (some q.2) := by
  obtain ⟨i, v⟩ := q
  unfold lass
  rw [List.mem_filterMap]
  constructor
  · rintro ⟨j, -, hj⟩
    split at hj
    · rename_i w hw
      cases hj
      exact hw
    · cases hj
  · intro h
    refine ⟨i, List.mem_range.mpr (List.getElem?_eq_some_iff.mp h).1, ?_⟩
    simp only at h
    rw [h]
theorem LH.has {la : Array Slot} {n : Nat} {ls : LL} (h : LH la n ls) : lv_has la n (lass ls) := ⟨h.1, h.2.1, fun q hq => h.2.2 q.1 q.2 (lass_mem.mp hq)⟩
/-- no long stands just ahead of place i -/
def okA (ls : LL) (i : Nat) : Bool := match i with
  | 0 => true
  | j + 1 => match ls[j]? with
    | some (some v) => v.category == 1
    | _ => true
theorem okA_not {ls : LL} {i j : Nat} {w : Value} (h : okA ls i = true) (hj : ls[j]? = some (some w)) (hji : j + 1 = i) : w.category = 1 := by
  subst hji
  simp only [okA, hj] at h
  exact beq_iff_eq.mp h
theorem LH.put1 {la : Array Slot} {n i : Nat} {ls : LL} {v : Value} (h : LH la n ls) (hi : i < n) (hc : v.category = 1) (ho : okA ls i = true) : ∃ la', storeLocals la i v = some la' ∧ LH la' n (ls.set i (some v)) := by
  obtain ⟨la', h1, h2, h3, h4⟩ := lv_store1 h.has hi hc
  refine ⟨la', h1, h2, h3, fun j w hj => ?_⟩
  by_cases hji : j = i
  · subst hji
    rw [List.getElem?_set] at hj
    simp only [if_true] at hj
    split at hj
    · cases hj
      exact h4 (j, v) List.mem_cons_self
    · cases hj
  · rw [List.getElem?_set_ne (Ne.symm hji)] at hj
    refine h4 (j, w) (List.mem_cons_of_mem _ (List.mem_filter.mpr ⟨lass_mem.mpr hj, ?_⟩))
    have hn : ¬ (j + 1 = i ∧ w.category = 2) := fun q => by have := okA_not ho hj q.1; omega
    simp only [Bool.and_eq_true, Bool.not_eq_true', Bool.and_eq_false_iff, beq_eq_false_iff_ne, ne_eq]
    refine ⟨hji, ?_⟩
    by_cases h5 : j + 1 = i
    · exact Or.inr fun q => hn ⟨h5, q⟩
    · exact Or.inl h5
theorem LH.put2 {la : Array Slot} {n i : Nat} {ls : LL} {v : Value} (h : LH la n ls) (hi : i + 1 < n) (hc : v.category = 2) (ho : okA ls i = true) : ∃ la', storeLocals la i v = some la' ∧ LH la' n ((ls.set i (some v)).set (i + 1) none) := by
  obtain ⟨la', h1, h2, h3, h4⟩ := lv_store2 h.has hi hc
  refine ⟨la', h1, h2, h3, fun j w hj => ?_⟩
  by_cases hj1 : j = i + 1
  · subst hj1
    rw [List.getElem?_set] at hj
    simp only [if_true] at hj
    split at hj <;> cases hj
  · rw [List.getElem?_set_ne (Ne.symm hj1)] at hj
    by_cases hji : j = i
    · subst hji
      rw [List.getElem?_set] at hj
      simp only [if_true] at hj
      split at hj
      · cases hj
        exact h4 (j, v) List.mem_cons_self
      · cases hj
    · rw [List.getElem?_set_ne (Ne.symm hji)] at hj
      refine h4 (j, w) (List.mem_cons_of_mem _ (List.mem_filter.mpr ⟨lass_mem.mpr hj, ?_⟩))
      have hn : ¬ (j + 1 = i ∧ w.category = 2) := fun q => by have := okA_not ho hj q.1; omega
      simp only [Bool.and_eq_true, Bool.not_eq_true', Bool.and_eq_false_iff, beq_eq_false_iff_ne, ne_eq]
      refine ⟨hji, hj1, ?_⟩
      by_cases h5 : j + 1 = i
      · exact Or.inr fun q => hn ⟨h5, q⟩
      · exact Or.inl h5
/-- fewer known -/
def maskL : List Bool → LL → LL
  | b :: bs, x :: xs => (if b then x else none) :: maskL bs xs
  | _, _ => []
theorem maskL_at : ∀ (bs : List Bool) (ls : LL) (i : Nat) (v : Value), (maskL bs ls)[i]? = some (some v) → ls[i]? = some (some v)
  | [], ls, i, v, h => by cases ls <;> simp [maskL] at h
  | b :: bs, [], i, v, h => by simp [maskL] at h
  | b :: bs, x :: xs, 0, v, h => by
    simp only [maskL, List.getElem?_cons_zero] at h
    split at h
    · exact h
    · cases h
  | b :: bs, x :: xs, i + 1, v, h => by
    simp only [maskL, List.getElem?_cons_succ] at h ⊢
    exact maskL_at bs xs i v h
theorem LH.mask {la : Array Slot} {n : Nat} {ls : LL} (h : LH la n ls) (bs : List Bool) : LH la n (maskL bs ls) := ⟨h.1, h.2.1, fun i v hv => h.2.2 i v (maskL_at bs ls i v hv)⟩
