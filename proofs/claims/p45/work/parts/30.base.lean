/-! pure rows: what follows a call, frames of memories, small numbers -/
theorem RI.mk {K : Int32 → Mem → Prop} {v : Int32} {M : Mem} (h : K v M) : RI K (some (.int v)) M := ⟨v, rfl, h⟩
theorem RJ.mk {K : Int64 → Mem → Prop} {v : Int64} {M : Mem} (h : K v M) : RJ K (some (.long v)) M := ⟨v, rfl, h⟩
theorem RV.mk {K : Mem → Prop} {M : Mem} (h : K M) : RV K none M := ⟨rfl, h⟩
/-- M' is M but in places of P -/
def Eqv (P : Nat → Nat → Prop) (M M' : Mem) : Prop := ∀ a k, ¬ P a k → M'.1 a k = M.1 a k ∧ M'.2 a k = M.2 a k
theorem Eqv.rf {P : Nat → Nat → Prop} {M : Mem} : Eqv P M M := fun _ _ _ => ⟨rfl, rfl⟩
theorem Eqv.mono {P P' : Nat → Nat → Prop} {M M' : Mem} (h : Eqv P M M') (hp : ∀ a k, P a k → P' a k) : Eqv P' M M' := fun a k hn => h a k fun q => hn (hp a k q)
theorem Eqv.tr {P : Nat → Nat → Prop} {M M1 M2 : Mem} (h : Eqv P M M1) (h2 : Eqv P M1 M2) : Eqv P M M2 := fun a k hn => ⟨(h2 a k hn).1.trans (h a k hn).1, (h2 a k hn).2.trans (h a k hn).2⟩
theorem Eqv.i {P : Nat → Nat → Prop} {M M' : Mem} (h : Eqv P M M') {a k : Nat} (hn : ¬ P a k) : M'.1 a k = M.1 a k := (h a k hn).1
theorem Eqv.l {P : Nat → Nat → Prop} {M M' : Mem} (h : Eqv P M M') {a k : Nat} (hn : ¬ P a k) : M'.2 a k = M.2 a k := (h a k hn).2
theorem Eqv.upI {P : Nat → Nat → Prop} {M M' : Mem} (h : Eqv P M M') {a k : Nat} {v : Int32} (hp : P a k) : Eqv P M (upI M' a k v) := fun b j hn => by
  refine ⟨?_, (h b j hn).2⟩
  rw [upI_at, if_neg (fun q => hn (by rw [q.1, q.2]; exact hp))]
  exact (h b j hn).1
theorem Eqv.upL {P : Nat → Nat → Prop} {M M' : Mem} (h : Eqv P M M') {a k : Nat} {v : Int64} (hp : P a k) : Eqv P M (upL M' a k v) := fun b j hn => by
  refine ⟨(h b j hn).1, ?_⟩
  rw [upL_at, if_neg (fun q => hn (by rw [q.1, q.2]; exact hp))]
  exact (h b j hn).2
theorem upI_s (M : Mem) (a k : Nat) (v : Int32) : (upI M a k v).1 a k = v := by rw [upI_at, if_pos ⟨rfl, rfl⟩]
theorem upI_n (M : Mem) {a k b j : Nat} (v : Int32) (h : ¬ (b = a ∧ j = k)) : (upI M a k v).1 b j = M.1 b j := by rw [upI_at, if_neg h]
theorem upL_s (M : Mem) (a k : Nat) (v : Int64) : (upL M a k v).2 a k = v := by rw [upL_at, if_pos ⟨rfl, rfl⟩]
theorem upL_n (M : Mem) {a k b j : Nat} (v : Int64) (h : ¬ (b = a ∧ j = k)) : (upL M a k v).2 b j = M.2 b j := by rw [upL_at, if_neg h]
def bI (b : Bool) : Int32 := if b then 1 else 0
def oI (o : Option Nat) : Int32 := match o with
  | none => -9
  | some v => nI v
theorem bI_0 {b : Bool} : bI b = 0 ↔ b = false := by cases b <;> simp [bI]
theorem bI_n0 {b : Bool} : ¬ bI b = 0 ↔ b = true := by cases b <;> simp [bI]
theorem bI_nar (b : Bool) : narrow .boolean (.int (bI b)) = .int (bI b) := by cases b <;> rfl
theorem oI_some (v : Nat) : oI (some v) = nI v := rfl
theorem oI_none : oI none = -9 := rfl
theorem nI_ne9 {n : Nat} (h : n < 2 ^ 31) : ¬ nI n = -9 := by
  intro e
  have h2 := congrArg Int32.toInt e
  rw [nI_toInt h] at h2
  have h3 : (-9 : Int32).toInt = -9 := by decide
  omega
theorem oI_n9 {o : Option Nat} (h : ∀ v, o = some v → v < 2 ^ 31) : oI o = -9 ↔ o = none := by
  cases o with
  | none => simp [oI]
  | some v => simp [oI, nI_ne9 (h v rfl)]
theorem oI_inj {o o' : Option Nat} (h : ∀ v, o = some v → v < 2 ^ 31) (h' : ∀ v, o' = some v → v < 2 ^ 31) : oI o = oI o' ↔ o = o' := by
  cases o with
  | none =>
    cases o' with
    | none => simp
    | some v => simp [oI, Ne.symm (nI_ne9 (h' v rfl))]
  | some u =>
    cases o' with
    | none => simp [oI, nI_ne9 (h u rfl)]
    | some v => simp [oI, nI_eq (h u rfl) (h' v rfl)]
theorem lt6 {k : Nat} (h : k < 6) : k = 0 ∨ k = 1 ∨ k = 2 ∨ k = 3 ∨ k = 4 ∨ k = 5 := by omega
theorem lt8 {k : Nat} (h : k < 8) : k = 0 ∨ k = 1 ∨ k = 2 ∨ k = 3 ∨ k = 4 ∨ k = 5 ∨ k = 6 ∨ k = 7 := by omega
theorem vin {n N : Nat} (h : n < N) (hN : N < 2 ^ 31 := by decide) : vp_in (nI n) N := vp_in_nI h hN
theorem ncl {n : Nat} (h : n < 2 ^ 31) : (nI n).toNatClampNeg = n := nI_clamp h
theorem kdGl {i : Nat} (h : i < 8) : kd (55 + i) = 4 := by rcases lt8 h with rfl | rfl | rfl | rfl | rfl | rfl | rfl | rfl <;> rfl
theorem kdWn {i : Nat} (h : i < 8) : kd (63 + i) = 4 := by rcases lt8 h with rfl | rfl | rfl | rfl | rfl | rfl | rfl | rfl <;> rfl
/-! a glove: kind, sort, hand, how warm, wear -/
abbrev Gl : Type := Nat × Nat × Nat × Nat × Nat
abbrev gK (x : Gl) : Nat := x.1
abbrev gS (x : Gl) : Nat := x.2.1
abbrev gH (x : Gl) : Nat := x.2.2.1
abbrev gW (x : Gl) : Nat := x.2.2.2.1
abbrev gR (x : Gl) : Nat := x.2.2.2.2
def GlOk (x : Gl) : Prop := gK x < 6 ∧ gS x < 10 ∧ gH x < 2 ∧ gW x < 10 ∧ gR x < 64
def GlAt (M : Mem) (a : Nat) (x : Gl) : Prop := M.1 a 0 = nI (gK x) ∧ M.1 a 1 = nI (gS x) ∧ M.1 a 2 = nI (gH x) ∧ M.1 a 3 = nI (gW x) ∧ M.1 a 4 = nI (gR x)
def isN (k c : Nat) : Bool := c == k || c == 0 || (c == 1 && k == 4) || (c == 2 && k == 5)
def bareN (w r : Nat) : Nat := w - r / 3
def wmN (k w r : Nat) : Nat := match k with
  | 1 => bareN w r + 2
  | 2 => bareN w r - 1
  | 4 => if r < 6 then bareN w r + 3 else bareN w r
  | 5 => bareN w r - 1
  | _ => bareN w r
def wm (x : Gl) : Nat := wmN (gK x) (gW x) (gR x)
def goN (x : Gl) (h : Nat) : Bool := gH x == h || isN (gK x) 2
def mp (x y : Gl) : Bool := (goN x 0 && goN y 1) || (goN x 1 && goN y 0)
def apN (s t : Nat) : Nat := if s < t then t - s else s - t
def gwN (x y : Gl) : Nat := if gK x = 5 ∨ gK y = 5 then wm x + wm y else wm x + wm y - 2 * apN (gS x) (gS y)
def gw (x y : Gl) : Option Nat := if mp x y then some (gwN x y) else none
theorem mp_comm (x y : Gl) : mp x y = mp y x := by
  unfold mp
  cases goN x 0 <;> cases goN x 1 <;> cases goN y 0 <;> cases goN y 1 <;> rfl
theorem apN_comm (s t : Nat) : apN s t = apN t s := by unfold apN; split <;> split <;> omega
theorem gw_comm (x y : Gl) : gw x y = gw y x := by
  unfold gw gwN
  rw [mp_comm x y, apN_comm, Nat.add_comm (wm x)]
  by_cases h : gK x = 5 ∨ gK y = 5
  · rw [if_pos h, if_pos (Or.comm.mp h)]
  · rw [if_neg h, if_neg (fun q => h (Or.comm.mp q))]
theorem wmN_lt {k w r : Nat} (hw : w < 10) : wmN k w r < 13 := by
  have hb : bareN w r < 10 := by unfold bareN; omega
  unfold wmN
  split <;> (try split) <;> omega
theorem gw_lt {x y : Gl} (hx : GlOk x) (hy : GlOk y) {v : Nat} (h : gw x y = some v) : v < 25 := by
  unfold gw at h
  split at h
  · have h2 := Option.some.inj h
    have a := wmN_lt (k := gK x) (r := gR x) hx.2.2.2.1
    have b := wmN_lt (k := gK y) (r := gR y) hy.2.2.2.1
    unfold gwN wm at h2
    split at h2 <;> omega
  · cases h
set_option maxRecDepth 100000 in
theorem bare_tab : ∀ w, w < 10 → ∀ r, r < 64 → (if (0 : Int32) < nI w - nI r / 3 then nI w - nI r / 3 else 0) = nI (bareN w r) := by decide +kernel
set_option maxRecDepth 100000 in
theorem bare_tab2 : ∀ w, w < 10 → ∀ r, r < 64 → (nI w - nI r / 3 < 0 ↔ w < r / 3) ∧ (¬ w < r / 3 → nI w - nI r / 3 = nI (w - r / 3)) := by decide +kernel
theorem dec_tab : ∀ n, n < 16 → (if (0 : Int32) < nI n - 1 then nI n - 1 else 0) = nI (n - 1) := by decide +kernel
