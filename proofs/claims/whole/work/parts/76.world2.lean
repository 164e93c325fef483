section ASM2
variable {G : Glob} {x y : Nat} {b d : Nat → Nat} {H : Heap}
set_option maxHeartbeats 4000000 in
set_option maxRecDepth 20000 in
theorem as_71_e : ent (G1 G x y b d) M0 71 = .inr (11, [.int 0, .long 0, .long 1, .int 0, .ref (d 0), .ref (d 1), .ref (d 2), .ref (d 3), .ref (d 4), .ref (d 5), .int 0, .int 0, .ref (d 6), .ref (d 7), .ref (d 8), .ref (d 9), .int 0, .int 0, .int 0, .int 0, .int 0, .ref (d 10), .ref (d 11), .ref (d 12), .ref (d 13), .ref (d 14), .ref (d 15), .int 0, .ref (d 16), .ref (d 17), .ref (d 18), .ref (d 19), .ref (d 20), .ref (d 21), .int 0, .ref (d 22)]) := by
  rw [ent_obj _ _ (show kd 71 = 11 from rfl) (by decide)]
  refine congrArg (fun v => (Sum.inr (11, v) : va_E)) ?_
  show (([0, 1, 1, 0, 2, 2, 2, 2, 2, 2, 0, 0, 2, 2, 2, 2, 0, 0, 0, 0, 0, 2, 2, 2, 2, 2, 2, 0, 2, 2, 2, 2, 2, 2, 0, 2] : List Nat)).mapIdx _ = _
  simp only [List.mapIdx_cons, List.mapIdx_nil]
  refine congr (congrArg List.cons rfl) ?_
  refine congr (congrArg List.cons rfl) ?_
  refine congr (congrArg List.cons rfl) ?_
  refine congr (congrArg List.cons rfl) ?_
  refine congr (congrArg List.cons rfl) ?_
  refine congr (congrArg List.cons rfl) ?_
  refine congr (congrArg List.cons rfl) ?_
  refine congr (congrArg List.cons rfl) ?_
  refine congr (congrArg List.cons rfl) ?_
  refine congr (congrArg List.cons rfl) ?_
  refine congr (congrArg List.cons rfl) ?_
  refine congr (congrArg List.cons rfl) ?_
  refine congr (congrArg List.cons rfl) ?_
  refine congr (congrArg List.cons rfl) ?_
  refine congr (congrArg List.cons rfl) ?_
  refine congr (congrArg List.cons rfl) ?_
  refine congr (congrArg List.cons rfl) ?_
  refine congr (congrArg List.cons rfl) ?_
  refine congr (congrArg List.cons rfl) ?_
  refine congr (congrArg List.cons rfl) ?_
  refine congr (congrArg List.cons rfl) ?_
  refine congr (congrArg List.cons rfl) ?_
  refine congr (congrArg List.cons rfl) ?_
  refine congr (congrArg List.cons rfl) ?_
  refine congr (congrArg List.cons rfl) ?_
  refine congr (congrArg List.cons rfl) ?_
  refine congr (congrArg List.cons rfl) ?_
  refine congr (congrArg List.cons rfl) ?_
  refine congr (congrArg List.cons rfl) ?_
  refine congr (congrArg List.cons rfl) ?_
  refine congr (congrArg List.cons rfl) ?_
  refine congr (congrArg List.cons rfl) ?_
  refine congr (congrArg List.cons rfl) ?_
  refine congr (congrArg List.cons rfl) ?_
  refine congr (congrArg List.cons rfl) ?_
  refine congr (congrArg List.cons rfl) ?_
  rfl
set_option maxRecDepth 20000 in
theorem as_71 (hP : va_P (gD G) vwCl (W_X10 G x b ++ W_X11 G y d) H) : va_at (gD G) vwCl (ad (G1 G x y b d) 71, ent (G1 G x y b d) M0 71) H := by
  rw [as_71_e]
  exact hP 71 (y, .inr (11, [.int 0, .long 0, .long 1, .int 0, .ref (d 0), .ref (d 1), .ref (d 2), .ref (d 3), .ref (d 4), .ref (d 5), .int 0, .int 0, .ref (d 6), .ref (d 7), .ref (d 8), .ref (d 9), .int 0, .int 0, .int 0, .int 0, .int 0, .ref (d 10), .ref (d 11), .ref (d 12), .ref (d 13), .ref (d 14), .ref (d 15), .int 0, .ref (d 16), .ref (d 17), .ref (d 18), .ref (d 19), .ref (d 20), .ref (d 21), .int 0, .ref (d 22)])) rfl
theorem as_all (hP : va_P (gD G) vwCl (W_X10 G x b ++ W_X11 G y d) H) : ∀ a, a < 95 → va_at (gD G) vwCl (ad (G1 G x y b d) a, ent (G1 G x y b d) M0 a) H :=
  lt_s (lt_s (lt_s (lt_s (lt_s (lt_s (lt_s (lt_s (lt_s (lt_s (lt_s (lt_s (lt_s (lt_s (lt_s (lt_s (lt_s (lt_s (lt_s (lt_s (lt_s (lt_s (lt_s (lt_s (lt_s (lt_s (lt_s (lt_s (lt_s (lt_s (lt_s (lt_s (lt_s (lt_s (lt_s (lt_s (lt_s (lt_s (lt_s (lt_s (lt_s (lt_s (lt_s (lt_s (lt_s (lt_s (lt_s (lt_s (lt_s (lt_s (lt_s (lt_s (lt_s (lt_s (lt_s (lt_s (lt_s (lt_s (lt_s (lt_s (lt_s (lt_s (lt_s (lt_s (lt_s (lt_s (lt_s (lt_s (lt_s (lt_s (lt_s (lt_s (lt_s (lt_s (lt_s (lt_s (lt_s (lt_s (lt_s (lt_s (lt_s (lt_s (lt_s (lt_s (lt_s (lt_s (lt_s (lt_s (lt_s (lt_s (lt_s (lt_s (lt_s (lt_s (lt_s lt_0 (as_0 hP)) (as_1 hP)) (as_2 hP)) (as_3 hP)) (as_4 hP)) (as_5 hP)) (as_6 hP)) (as_7 hP)) (as_8 hP)) (as_9 hP)) (as_10 hP)) (as_11 hP)) (as_12 hP)) (as_13 hP)) (as_14 hP)) (as_15 hP)) (as_16 hP)) (as_17 hP)) (as_18 hP)) (as_19 hP)) (as_20 hP)) (as_21 hP)) (as_22 hP)) (as_23 hP)) (as_24 hP)) (as_25 hP)) (as_26 hP)) (as_27 hP)) (as_28 hP)) (as_29 hP)) (as_30 hP)) (as_31 hP)) (as_32 hP)) (as_33 hP)) (as_34 hP)) (as_35 hP)) (as_36 hP)) (as_37 hP)) (as_38 hP)) (as_39 hP)) (as_40 hP)) (as_41 hP)) (as_42 hP)) (as_43 hP)) (as_44 hP)) (as_45 hP)) (as_46 hP)) (as_47 hP)) (as_48 hP)) (as_49 hP)) (as_50 hP)) (as_51 hP)) (as_52 hP)) (as_53 hP)) (as_54 hP)) (as_55 hP)) (as_56 hP)) (as_57 hP)) (as_58 hP)) (as_59 hP)) (as_60 hP)) (as_61 hP)) (as_62 hP)) (as_63 hP)) (as_64 hP)) (as_65 hP)) (as_66 hP)) (as_67 hP)) (as_68 hP)) (as_69 hP)) (as_70 hP)) (as_71 hP)) (as_72 hP)) (as_73 hP)) (as_74 hP)) (as_75 hP)) (as_76 hP)) (as_77 hP)) (as_78 hP)) (as_79 hP)) (as_80 hP)) (as_81 hP)) (as_82 hP)) (as_83 hP)) (as_84 hP)) (as_85 hP)) (as_86 hP)) (as_87 hP)) (as_88 hP)) (as_89 hP)) (as_90 hP)) (as_91 hP)) (as_92 hP)) (as_93 hP)) (as_94 hP)
theorem asm_P (hP : va_P (gD G) vwCl (W_X10 G x b ++ W_X11 G y d) H) : va_P (gD (G1 G x y b d)) vwCl (wso (G1 G x y b d) M0) H := fun k q hk => by
  have h := (List.getElem?_eq_some_iff.mp hk).1
  rw [wso_len] at h
  rw [wso_at _ _ h] at hk
  cases hk
  exact as_all hP k h
set_option maxRecDepth 20000 in
theorem asm_ix : ∀ i, i < 95 → ∃ e, (W_X10 G x b ++ W_X11 G y d)[piL.getD i 0]? = some ((AL x y b d).getD i 0, e) :=
  lt_s (lt_s (lt_s (lt_s (lt_s (lt_s (lt_s (lt_s (lt_s (lt_s (lt_s (lt_s (lt_s (lt_s (lt_s (lt_s (lt_s (lt_s (lt_s (lt_s (lt_s (lt_s (lt_s (lt_s (lt_s (lt_s (lt_s (lt_s (lt_s (lt_s (lt_s (lt_s (lt_s (lt_s (lt_s (lt_s (lt_s (lt_s (lt_s (lt_s (lt_s (lt_s (lt_s (lt_s (lt_s (lt_s (lt_s (lt_s (lt_s (lt_s (lt_s (lt_s (lt_s (lt_s (lt_s (lt_s (lt_s (lt_s (lt_s (lt_s (lt_s (lt_s (lt_s (lt_s (lt_s (lt_s (lt_s (lt_s (lt_s (lt_s (lt_s (lt_s (lt_s (lt_s (lt_s (lt_s (lt_s (lt_s (lt_s (lt_s (lt_s (lt_s (lt_s (lt_s (lt_s (lt_s (lt_s (lt_s (lt_s (lt_s (lt_s (lt_s (lt_s (lt_s (lt_s lt_0 (⟨_, rfl⟩)) (⟨_, rfl⟩)) (⟨_, rfl⟩)) (⟨_, rfl⟩)) (⟨_, rfl⟩)) (⟨_, rfl⟩)) (⟨_, rfl⟩)) (⟨_, rfl⟩)) (⟨_, rfl⟩)) (⟨_, rfl⟩)) (⟨_, rfl⟩)) (⟨_, rfl⟩)) (⟨_, rfl⟩)) (⟨_, rfl⟩)) (⟨_, rfl⟩)) (⟨_, rfl⟩)) (⟨_, rfl⟩)) (⟨_, rfl⟩)) (⟨_, rfl⟩)) (⟨_, rfl⟩)) (⟨_, rfl⟩)) (⟨_, rfl⟩)) (⟨_, rfl⟩)) (⟨_, rfl⟩)) (⟨_, rfl⟩)) (⟨_, rfl⟩)) (⟨_, rfl⟩)) (⟨_, rfl⟩)) (⟨_, rfl⟩)) (⟨_, rfl⟩)) (⟨_, rfl⟩)) (⟨_, rfl⟩)) (⟨_, rfl⟩)) (⟨_, rfl⟩)) (⟨_, rfl⟩)) (⟨_, rfl⟩)) (⟨_, rfl⟩)) (⟨_, rfl⟩)) (⟨_, rfl⟩)) (⟨_, rfl⟩)) (⟨_, rfl⟩)) (⟨_, rfl⟩)) (⟨_, rfl⟩)) (⟨_, rfl⟩)) (⟨_, rfl⟩)) (⟨_, rfl⟩)) (⟨_, rfl⟩)) (⟨_, rfl⟩)) (⟨_, rfl⟩)) (⟨_, rfl⟩)) (⟨_, rfl⟩)) (⟨_, rfl⟩)) (⟨_, rfl⟩)) (⟨_, rfl⟩)) (⟨_, rfl⟩)) (⟨_, rfl⟩)) (⟨_, rfl⟩)) (⟨_, rfl⟩)) (⟨_, rfl⟩)) (⟨_, rfl⟩)) (⟨_, rfl⟩)) (⟨_, rfl⟩)) (⟨_, rfl⟩)) (⟨_, rfl⟩)) (⟨_, rfl⟩)) (⟨_, rfl⟩)) (⟨_, rfl⟩)) (⟨_, rfl⟩)) (⟨_, rfl⟩)) (⟨_, rfl⟩)) (⟨_, rfl⟩)) (⟨_, rfl⟩)) (⟨_, rfl⟩)) (⟨_, rfl⟩)) (⟨_, rfl⟩)) (⟨_, rfl⟩)) (⟨_, rfl⟩)) (⟨_, rfl⟩)) (⟨_, rfl⟩)) (⟨_, rfl⟩)) (⟨_, rfl⟩)) (⟨_, rfl⟩)) (⟨_, rfl⟩)) (⟨_, rfl⟩)) (⟨_, rfl⟩)) (⟨_, rfl⟩)) (⟨_, rfl⟩)) (⟨_, rfl⟩)) (⟨_, rfl⟩)) (⟨_, rfl⟩)) (⟨_, rfl⟩)) (⟨_, rfl⟩)) (⟨_, rfl⟩)) (⟨_, rfl⟩)) (⟨_, rfl⟩)
theorem pi_inj : ∀ i, i < 95 → ∀ j, j < 95 → piL.getD i 0 = piL.getD j 0 → i = j := by decide +kernel
theorem asm_GI {A : Nat → Prop} (hD : va_D A (W_X10 G x b ++ W_X11 G y d)) : GI (G1 G x y b d) := fun i j hi hj e => by
  obtain ⟨e1, h1⟩ := asm_ix (G := G) (x := x) (y := y) (b := b) (d := d) i hi
  obtain ⟨e2, h2⟩ := asm_ix (G := G) (x := x) (y := y) (b := b) (d := d) j hj
  exact pi_inj i hi j hj (hD.1 _ _ _ _ h1 h2 e)
theorem asm_A {A : Nat → Prop} (hD : va_D A (W_X10 G x b ++ W_X11 G y d)) : ∀ q, AG (G1 G x y b d) q → A q := fun q h => by
  obtain ⟨a, ha, rfl⟩ := h
  obtain ⟨e1, h1⟩ := asm_ix (G := G) (x := x) (y := y) (b := b) (d := d) a ha
  exact hD.2 _ _ h1
end ASM2
/-! the first state -/
def S0 : St := ((fun _ => none, fun _ _ => 0), (fun _ => none, fun _ _ => 0), (0, 0, fun _ => (0, 0, 0, 0), []), fun _ => none, fun _ => 0, 0, 0, 0, 1)
theorem S0_ok : SOk S0 := by
  refine ⟨?_, ?_, ⟨Nat.zero_le _, Nat.zero_le _, fun i hi => absurd hi (Nat.not_lt_zero i), ⟨Nat.zero_le _, ?_⟩⟩, ?_⟩
  · intro r hr n h
    cases h
  · intro r hr n h
    cases h
  · intro d hd
    cases hd
  · intro k hk L h
    cases h
theorem lt3 {k : Nat} (h : k < 3) : k = 0 ∨ k = 1 ∨ k = 2 := by omega
theorem lt4 {k : Nat} (h : k < 4) : k = 0 ∨ k = 1 ∨ k = 2 ∨ k = 3 := by omega
theorem non_n {α : Type} {P : α → Prop} : ∀ n, (none : Option α) = some n → P n := fun n h => by cases h
theorem nil_n {P : Nat → Deed → Prop} : ∀ (j : Nat) (d : Deed), ([] : List Deed)[j]? = some d → P j d := fun j d h => by cases h
theorem S0_C : RC S0 M0 := by
  refine ⟨⟨rfl, rfl, fun r hr => ⟨?_, non_n⟩⟩, ⟨rfl, rfl, fun r hr => ⟨?_, non_n⟩⟩, ⟨rfl, rfl, fun i hi => absurd hi (Nat.not_lt_zero i), rfl, nil_n⟩, fun k hk => ⟨?_, non_n⟩, ⟨fun f h1 h5 => rfl, rfl, rfl, rfl, rfl⟩, fun m hm => if_pos hm⟩
  · rcases lt6 hr with rfl | rfl | rfl | rfl | rfl | rfl <;> rfl
  · rcases lt4 hr with rfl | rfl | rfl | rfl <;> rfl
  · rcases lt3 hk with rfl | rfl | rfl <;> rfl
theorem S0_M : RM S0 M0 := by
  refine ⟨fun r hr => ⟨?_, non_n⟩, fun r hr => ⟨?_, non_n⟩, ⟨rfl, rfl, fun i hi => absurd hi (Nat.not_lt_zero i), rfl, nil_n⟩, fun k hk => ⟨?_, non_n⟩, ⟨fun f h1 h5 => rfl, rfl, rfl, rfl, rfl⟩⟩
  · rcases lt6 hr with rfl | rfl | rfl | rfl | rfl | rfl <;> rfl
  · rcases lt4 hr with rfl | rfl | rfl | rfl <;> rfl
  · rcases lt3 hk with rfl | rfl | rfl <;> rfl
theorem Bo_0 : Bo M0 := Bo.mk S0_ok S0_C S0_M
