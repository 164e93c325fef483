section ASM2
variable {G : Glob} {x y : Nat} {b d : Nat → Nat} {H : Heap}
set_option maxRecDepth 20000 in
theorem as_all (hP : va_P (gD G) vwCl (W_X10 G x b) H) : ∀ a, a < 71 → va_at (gD G) vwCl (ad (G1 G x b) a, ent (G1 G x b) M0 a) H :=
  lt_s (lt_s (lt_s (lt_s (lt_s (lt_s (lt_s (lt_s (lt_s (lt_s (lt_s (lt_s (lt_s (lt_s (lt_s (lt_s (lt_s (lt_s (lt_s (lt_s (lt_s (lt_s (lt_s (lt_s (lt_s (lt_s (lt_s (lt_s (lt_s (lt_s (lt_s (lt_s (lt_s (lt_s (lt_s (lt_s (lt_s (lt_s (lt_s (lt_s (lt_s (lt_s (lt_s (lt_s (lt_s (lt_s (lt_s (lt_s (lt_s (lt_s (lt_s (lt_s (lt_s (lt_s (lt_s (lt_s (lt_s (lt_s (lt_s (lt_s (lt_s (lt_s (lt_s (lt_s (lt_s (lt_s (lt_s (lt_s (lt_s (lt_s (lt_s lt_0 (as_0 hP)) (as_1 hP)) (as_2 hP)) (as_3 hP)) (as_4 hP)) (as_5 hP)) (as_6 hP)) (as_7 hP)) (as_8 hP)) (as_9 hP)) (as_10 hP)) (as_11 hP)) (as_12 hP)) (as_13 hP)) (as_14 hP)) (as_15 hP)) (as_16 hP)) (as_17 hP)) (as_18 hP)) (as_19 hP)) (as_20 hP)) (as_21 hP)) (as_22 hP)) (as_23 hP)) (as_24 hP)) (as_25 hP)) (as_26 hP)) (as_27 hP)) (as_28 hP)) (as_29 hP)) (as_30 hP)) (as_31 hP)) (as_32 hP)) (as_33 hP)) (as_34 hP)) (as_35 hP)) (as_36 hP)) (as_37 hP)) (as_38 hP)) (as_39 hP)) (as_40 hP)) (as_41 hP)) (as_42 hP)) (as_43 hP)) (as_44 hP)) (as_45 hP)) (as_46 hP)) (as_47 hP)) (as_48 hP)) (as_49 hP)) (as_50 hP)) (as_51 hP)) (as_52 hP)) (as_53 hP)) (as_54 hP)) (as_55 hP)) (as_56 hP)) (as_57 hP)) (as_58 hP)) (as_59 hP)) (as_60 hP)) (as_61 hP)) (as_62 hP)) (as_63 hP)) (as_64 hP)) (as_65 hP)) (as_66 hP)) (as_67 hP)) (as_68 hP)) (as_69 hP)) (as_70 hP)
theorem asm_P (hP : va_P (gD G) vwCl (W_X10 G x b) H) : va_P (gD (G1 G x b)) vwCl (wso (G1 G x b) M0) H := fun k q hk => by
  have h := (List.getElem?_eq_some_iff.mp hk).1
  rw [wso_len] at h
  rw [wso_at _ _ h] at hk
  cases hk
  exact as_all hP k h
set_option maxRecDepth 20000 in
theorem asm_ix : ∀ i, i < 71 → ∃ e, (W_X10 G x b)[piL.getD i 0]? = some ((AL x b).getD i 0, e) :=
  lt_s (lt_s (lt_s (lt_s (lt_s (lt_s (lt_s (lt_s (lt_s (lt_s (lt_s (lt_s (lt_s (lt_s (lt_s (lt_s (lt_s (lt_s (lt_s (lt_s (lt_s (lt_s (lt_s (lt_s (lt_s (lt_s (lt_s (lt_s (lt_s (lt_s (lt_s (lt_s (lt_s (lt_s (lt_s (lt_s (lt_s (lt_s (lt_s (lt_s (lt_s (lt_s (lt_s (lt_s (lt_s (lt_s (lt_s (lt_s (lt_s (lt_s (lt_s (lt_s (lt_s (lt_s (lt_s (lt_s (lt_s (lt_s (lt_s (lt_s (lt_s (lt_s (lt_s (lt_s (lt_s (lt_s (lt_s (lt_s (lt_s (lt_s (lt_s lt_0 (⟨_, rfl⟩)) (⟨_, rfl⟩)) (⟨_, rfl⟩)) (⟨_, rfl⟩)) (⟨_, rfl⟩)) (⟨_, rfl⟩)) (⟨_, rfl⟩)) (⟨_, rfl⟩)) (⟨_, rfl⟩)) (⟨_, rfl⟩)) (⟨_, rfl⟩)) (⟨_, rfl⟩)) (⟨_, rfl⟩)) (⟨_, rfl⟩)) (⟨_, rfl⟩)) (⟨_, rfl⟩)) (⟨_, rfl⟩)) (⟨_, rfl⟩)) (⟨_, rfl⟩)) (⟨_, rfl⟩)) (⟨_, rfl⟩)) (⟨_, rfl⟩)) (⟨_, rfl⟩)) (⟨_, rfl⟩)) (⟨_, rfl⟩)) (⟨_, rfl⟩)) (⟨_, rfl⟩)) (⟨_, rfl⟩)) (⟨_, rfl⟩)) (⟨_, rfl⟩)) (⟨_, rfl⟩)) (⟨_, rfl⟩)) (⟨_, rfl⟩)) (⟨_, rfl⟩)) (⟨_, rfl⟩)) (⟨_, rfl⟩)) (⟨_, rfl⟩)) (⟨_, rfl⟩)) (⟨_, rfl⟩)) (⟨_, rfl⟩)) (⟨_, rfl⟩)) (⟨_, rfl⟩)) (⟨_, rfl⟩)) (⟨_, rfl⟩)) (⟨_, rfl⟩)) (⟨_, rfl⟩)) (⟨_, rfl⟩)) (⟨_, rfl⟩)) (⟨_, rfl⟩)) (⟨_, rfl⟩)) (⟨_, rfl⟩)) (⟨_, rfl⟩)) (⟨_, rfl⟩)) (⟨_, rfl⟩)) (⟨_, rfl⟩)) (⟨_, rfl⟩)) (⟨_, rfl⟩)) (⟨_, rfl⟩)) (⟨_, rfl⟩)) (⟨_, rfl⟩)) (⟨_, rfl⟩)) (⟨_, rfl⟩)) (⟨_, rfl⟩)) (⟨_, rfl⟩)) (⟨_, rfl⟩)) (⟨_, rfl⟩)) (⟨_, rfl⟩)) (⟨_, rfl⟩)) (⟨_, rfl⟩)) (⟨_, rfl⟩)) (⟨_, rfl⟩)
theorem pi_inj : ∀ i, i < 71 → ∀ j, j < 71 → piL.getD i 0 = piL.getD j 0 → i = j := by decide +kernel
theorem w_len : (W_X10 G x b).length = 71 := rfl
theorem asm_GI {A : Nat → Prop} (hD : va_D A (W_X10 G x b)) : GI (G1 G x b) := fun i j hi hj e => by
  obtain ⟨e1, h1⟩ := asm_ix (G := G) (x := x) (b := b) i hi
  obtain ⟨e2, h2⟩ := asm_ix (G := G) (x := x) (b := b) j hj
  exact pi_inj i hi j hj (hD.1 _ _ _ _ h1 h2 e)
theorem asm_A {A : Nat → Prop} (hD : va_D A (W_X10 G x b)) : ∀ q, AG (G1 G x b) q → A q := fun q h => by
  obtain ⟨a, ha, rfl⟩ := h
  obtain ⟨e1, h1⟩ := asm_ix (G := G) (x := x) (b := b) a ha
  exact hD.2 _ _ h1
theorem w_l {k : Nat} {q : Nat × va_E} (h : (W_X10 G x b)[k]? = some q) : (W_X10 G x b ++ W_X10 G y d)[k]? = some q := by
  rw [List.getElem?_append_left (List.getElem?_eq_some_iff.mp h).1]
  exact h
theorem w_r {k : Nat} {q : Nat × va_E} (h : (W_X10 G y d)[k]? = some q) : (W_X10 G x b ++ W_X10 G y d)[k + 71]? = some q := by
  rw [List.getElem?_append_right (by rw [w_len]; omega), w_len, Nat.add_sub_cancel]
  exact h
theorem both_P (hP : va_P (gD G) vwCl (W_X10 G x b ++ W_X10 G y d) H) : va_P (gD G) vwCl (W_X10 G x b) H ∧ va_P (gD G) vwCl (W_X10 G y d) H :=
  ⟨fun k q h => hP k q (w_l h), fun k q h => hP (k + 71) q (w_r h)⟩
theorem both_D {A : Nat → Prop} (hD : va_D A (W_X10 G x b ++ W_X10 G y d)) : va_D A (W_X10 G x b) ∧ va_D A (W_X10 G y d) :=
  ⟨⟨fun i j p q hi hj e => hD.1 i j p q (w_l hi) (w_l hj) e, fun k q h => hD.2 k q (w_l h)⟩, ⟨fun i j p q hi hj e => by have := hD.1 (i + 71) (j + 71) p q (w_r hi) (w_r hj) e; omega, fun k q h => hD.2 (k + 71) q (w_r h)⟩⟩
theorem both_off {A : Nat → Prop} (hD : va_D A (W_X10 G x b ++ W_X10 G y d)) : ∀ i j, i < nT → j < nT → ad (G1 G x b) i ≠ ad (G1 G y d) j := fun i j hi hj e => by
  obtain ⟨e1, h1⟩ := asm_ix (G := G) (x := x) (b := b) i hi
  obtain ⟨e2, h2⟩ := asm_ix (G := G) (x := y) (b := d) j hj
  have l1 : piL.getD i 0 < 71 := by
    have := (List.getElem?_eq_some_iff.mp h1).1
    rw [w_len] at this
    exact this
  have := hD.1 _ _ _ _ (w_l (y := y) (d := d) h1) (w_r (x := x) (b := b) h2) e
  omega
end ASM2
/-! the first state -/
def S0 : St := ((fun _ => none, fun _ _ => 0), (fun _ => none, fun _ _ => 0), (0, 0, fun _ => (0, 0, 0, 0), []), fun _ => none, fun _ => 0, 0, 0, 0, 1)
theorem S0_ok : SOk S0 := by
  refine ⟨?_, ?_, ⟨Nat.zero_le _, Nat.zero_le _, fun i hi => absurd hi (Nat.not_lt_zero i), ⟨Nat.zero_le _, ?_⟩⟩, ?_⟩
  · intro r hr n h
    cases h
  · intro r hr n h
    cases h
  · intro d hd
    cases hd
  · intro k hk L h
    cases h
theorem lt3 {k : Nat} (h : k < 3) : k = 0 ∨ k = 1 ∨ k = 2 := by omega
theorem lt4 {k : Nat} (h : k < 4) : k = 0 ∨ k = 1 ∨ k = 2 ∨ k = 3 := by omega
theorem non_n {α : Type} {P : α → Prop} : ∀ n, (none : Option α) = some n → P n := fun n h => by cases h
theorem nil_n {P : Nat → Deed → Prop} : ∀ (j : Nat) (d : Deed), ([] : List Deed)[j]? = some d → P j d := fun j d h => by cases h
theorem S0_C : RC S0 M0 := by
  refine ⟨⟨rfl, rfl, fun r hr => ⟨?_, non_n⟩⟩, ⟨rfl, rfl, fun r hr => ⟨?_, non_n⟩⟩, ⟨rfl, rfl, fun i hi => absurd hi (Nat.not_lt_zero i), rfl, nil_n⟩, fun k hk => ⟨?_, non_n⟩, ⟨fun f h1 h5 => rfl, rfl, rfl, rfl, rfl⟩, fun m hm => if_pos hm⟩
  · rcases lt6 hr with rfl | rfl | rfl | rfl | rfl | rfl <;> rfl
  · rcases lt4 hr with rfl | rfl | rfl | rfl <;> rfl
  · rcases lt3 hk with rfl | rfl | rfl <;> rfl
