/-! the law's loop -/
section LLP
variable {p : Program} {l : Launch} {e : Env} {s : State} {m : MethodId} {below : List Frame} {meth : Method} {c : Code} {Qf : State → Prop} {G : Glob} {b Ln : Nat} {xs : Nat → Int32}
theorem lw_cmp {i n : Nat} (hi : i ≤ 4000) (hn : n ≤ 4000) : nI n - 6 < nI i ↔ n < i + 6 := by
  rw [show (6 : Int32) = nI 6 from rfl, Int32.lt_iff_toInt_lt, pk_sub_toInt (by omega) (by omega), nI_toInt (by omega)]
  omega
theorem lw_sw (X : CxB p s m #[Value.ref b] c G code 4 R_law) (hX : va_X b Ln xs s s.heap ∧ b < s.heap.size ∧ ¬ AG G b) (hG : gl G = l) {z x : Int32} {M : Mem} (h1 : vp_in (z + 1) Ln) (h2 : vp_in (z + 2) Ln) (h3 : vp_in (z + 3) Ln) (h4 : vp_in (z + 4) Ln) (h5 : vp_in (z + 5) Ln) (hB : Bo M) (next : ∀ M, Bo M → Fr p l e room_1 s m #[Value.ref b] below meth c G 600000 7302249 Qf 4 1355 [some (.ref b), some (.ref (ad G 0)), some (.ref (ad G 71)), some (.int z)] [] M) : Fr p l e room_1 s m #[Value.ref b] below meth c G 600000 7302249 Qf 4 33 [some (.ref b), some (.ref (ad G 0)), some (.ref (ad G 71)), some (.int z)] [.int x] M := by
  rcases ix3 x (n := 42) (by decide) with hx | ⟨j, hj, hx⟩
  · refine fr_tswD (tgt := 1355) X dL_law_33 ?_ (by decide) (next M hB)
    rcases hx with q | q
    · rw [Int32.lt_iff_toInt_lt] at q
      exact Or.inl q
    · rw [Int32.le_iff_toInt_le, nI_toInt (by decide)] at q
      exact Or.inr (by omega)
  have hj2 : j = 0 ∨ j = 1 ∨ j = 2 ∨ j = 3 ∨ j = 4 ∨ j = 5 ∨ j = 6 ∨ j = 7 ∨ j = 8 ∨ j = 9 ∨ j = 10 ∨ j = 11 ∨ j = 12 ∨ j = 13 ∨ j = 14 ∨ j = 15 ∨ j = 16 ∨ j = 17 ∨ j = 18 ∨ j = 19 ∨ j = 20 ∨ j = 21 ∨ j = 22 ∨ j = 23 ∨ j = 24 ∨ j = 25 ∨ j = 26 ∨ j = 27 ∨ j = 28 ∨ j = 29 ∨ j = 30 ∨ j = 31 ∨ j = 32 ∨ j = 33 ∨ j = 34 ∨ j = 35 ∨ j = 36 ∨ j = 37 ∨ j = 38 ∨ j = 39 ∨ j = 40 ∨ j = 41 := by omega
  rcases hj2 with rfl | rfl | rfl | rfl | rfl | rfl | rfl | rfl | rfl | rfl | rfl | rfl | rfl | rfl | rfl | rfl | rfl | rfl | rfl | rfl | rfl | rfl | rfl | rfl | rfl | rfl | rfl | rfl | rfl | rfl | rfl | rfl | rfl | rfl | rfl | rfl | rfl | rfl | rfl | rfl | rfl | rfl
  · exact fr_tswI (tgt := 216) (v := nI 0) X dL_law_33 hx (by decide) (by decide) rfl (by decide) (lc_0 X hX hG h1 h2 h3 h4 h5 hB next)
  · exact fr_tswI (tgt := 249) (v := nI 1) X dL_law_33 hx (by decide) (by decide) rfl (by decide) (lc_1 X hX hG h1 h2 h3 h4 h5 hB next)
  · exact fr_tswI (tgt := 292) (v := nI 2) X dL_law_33 hx (by decide) (by decide) rfl (by decide) (lc_2 X hX hG h1 h2 h3 h4 h5 hB next)
  · exact fr_tswI (tgt := 325) (v := nI 3) X dL_law_33 hx (by decide) (by decide) rfl (by decide) (lc_3 X hX hG h1 h2 h3 h4 h5 hB next)
  · exact fr_tswI (tgt := 348) (v := nI 4) X dL_law_33 hx (by decide) (by decide) rfl (by decide) (lc_4 X hX hG h1 h2 h3 h4 h5 hB next)
  · exact fr_tswI (tgt := 411) (v := nI 5) X dL_law_33 hx (by decide) (by decide) rfl (by decide) (lc_5 X hX hG h1 h2 h3 h4 h5 hB next)
  · exact fr_tswI (tgt := 434) (v := nI 6) X dL_law_33 hx (by decide) (by decide) rfl (by decide) (lc_6 X hX hG h1 h2 h3 h4 h5 hB next)
  · exact fr_tswI (tgt := 467) (v := nI 7) X dL_law_33 hx (by decide) (by decide) rfl (by decide) (lc_7 X hX hG h1 h2 h3 h4 h5 hB next)
  · exact fr_tswI (tgt := 510) (v := nI 8) X dL_law_33 hx (by decide) (by decide) rfl (by decide) (lc_8 X hX hG h1 h2 h3 h4 h5 hB next)
  · exact fr_tswI (tgt := 533) (v := nI 9) X dL_law_33 hx (by decide) (by decide) rfl (by decide) (lc_9 X hX hG h1 h2 h3 h4 h5 hB next)
  · exact fr_tswI (tgt := 556) (v := nI 10) X dL_law_33 hx (by decide) (by decide) rfl (by decide) (lc_10 X hX hG h1 h2 h3 h4 h5 hB next)
  · exact fr_tswI (tgt := 589) (v := nI 11) X dL_law_33 hx (by decide) (by decide) rfl (by decide) (lc_11 X hX hG h1 h2 h3 h4 h5 hB next)
  · exact fr_tswI (tgt := 622) (v := nI 12) X dL_law_33 hx (by decide) (by decide) rfl (by decide) (lc_12 X hX hG h1 h2 h3 h4 h5 hB next)
  · exact fr_tswI (tgt := 655) (v := nI 13) X dL_law_33 hx (by decide) (by decide) rfl (by decide) (lc_13 X hX hG h1 h2 h3 h4 h5 hB next)
  · exact fr_tswI (tgt := 688) (v := nI 14) X dL_law_33 hx (by decide) (by decide) rfl (by decide) (lc_14 X hX hG h1 h2 h3 h4 h5 hB next)
  · exact fr_tswI (tgt := 711) (v := nI 15) X dL_law_33 hx (by decide) (by decide) rfl (by decide) (lc_15 X hX hG h1 h2 h3 h4 h5 hB next)
  · exact fr_tswI (tgt := 734) (v := nI 16) X dL_law_33 hx (by decide) (by decide) rfl (by decide) (lc_16 X hX hG h1 h2 h3 h4 h5 hB next)
  · exact fr_tswI (tgt := 757) (v := nI 17) X dL_law_33 hx (by decide) (by decide) rfl (by decide) (lc_17 X hX hG h1 h2 h3 h4 h5 hB next)
  · exact fr_tswI (tgt := 780) (v := nI 18) X dL_law_33 hx (by decide) (by decide) rfl (by decide) (lc_18 X hX hG h1 h2 h3 h4 h5 hB next)
  · exact fr_tswI (tgt := 803) (v := nI 19) X dL_law_33 hx (by decide) (by decide) rfl (by decide) (lc_19 X hX hG h1 h2 h3 h4 h5 hB next)
  · exact fr_tswI (tgt := 826) (v := nI 20) X dL_law_33 hx (by decide) (by decide) rfl (by decide) (lc_20 X hX hG h1 h2 h3 h4 h5 hB next)
  · exact fr_tswI (tgt := 849) (v := nI 21) X dL_law_33 hx (by decide) (by decide) rfl (by decide) (lc_21 X hX hG h1 h2 h3 h4 h5 hB next)
  · exact fr_tswI (tgt := 872) (v := nI 22) X dL_law_33 hx (by decide) (by decide) rfl (by decide) (lc_22 X hX hG h1 h2 h3 h4 h5 hB next)
  · exact fr_tswI (tgt := 885) (v := nI 23) X dL_law_33 hx (by decide) (by decide) rfl (by decide) (lc_23 X hX hG h1 h2 h3 h4 h5 hB next)
  · exact fr_tswI (tgt := 898) (v := nI 24) X dL_law_33 hx (by decide) (by decide) rfl (by decide) (lc_24 X hX hG h1 h2 h3 h4 h5 hB next)
  · exact fr_tswI (tgt := 931) (v := nI 25) X dL_law_33 hx (by decide) (by decide) rfl (by decide) (lc_25 X hX hG h1 h2 h3 h4 h5 hB next)
  · exact fr_tswI (tgt := 944) (v := nI 26) X dL_law_33 hx (by decide) (by decide) rfl (by decide) (lc_26 X hX hG h1 h2 h3 h4 h5 hB next)
  · exact fr_tswI (tgt := 977) (v := nI 27) X dL_law_33 hx (by decide) (by decide) rfl (by decide) (lc_27 X hX hG h1 h2 h3 h4 h5 hB next)
  · exact fr_tswI (tgt := 1010) (v := nI 28) X dL_law_33 hx (by decide) (by decide) rfl (by decide) (lc_28 X hX hG h1 h2 h3 h4 h5 hB next)
  · exact fr_tswI (tgt := 1043) (v := nI 29) X dL_law_33 hx (by decide) (by decide) rfl (by decide) (lc_29 X hX hG h1 h2 h3 h4 h5 hB next)
  · exact fr_tswI (tgt := 1076) (v := nI 30) X dL_law_33 hx (by decide) (by decide) rfl (by decide) (lc_30 X hX hG h1 h2 h3 h4 h5 hB next)
  · exact fr_tswI (tgt := 1109) (v := nI 31) X dL_law_33 hx (by decide) (by decide) rfl (by decide) (lc_31 X hX hG h1 h2 h3 h4 h5 hB next)
  · exact fr_tswI (tgt := 1132) (v := nI 32) X dL_law_33 hx (by decide) (by decide) rfl (by decide) (lc_32 X hX hG h1 h2 h3 h4 h5 hB next)
  · exact fr_tswI (tgt := 1175) (v := nI 33) X dL_law_33 hx (by decide) (by decide) rfl (by decide) (lc_33 X hX hG h1 h2 h3 h4 h5 hB next)
  · exact fr_tswI (tgt := 1208) (v := nI 34) X dL_law_33 hx (by decide) (by decide) rfl (by decide) (lc_34 X hX hG h1 h2 h3 h4 h5 hB next)
  · exact fr_tswI (tgt := 1241) (v := nI 35) X dL_law_33 hx (by decide) (by decide) rfl (by decide) (lc_35 X hX hG h1 h2 h3 h4 h5 hB next)
  · exact fr_tswI (tgt := 1254) (v := nI 36) X dL_law_33 hx (by decide) (by decide) rfl (by decide) (lc_36 X hX hG h1 h2 h3 h4 h5 hB next)
  · exact fr_tswI (tgt := 1268) (v := nI 37) X dL_law_33 hx (by decide) (by decide) rfl (by decide) (lc_37 X hX hG h1 h2 h3 h4 h5 hB next)
  · exact fr_tswI (tgt := 1282) (v := nI 38) X dL_law_33 hx (by decide) (by decide) rfl (by decide) (lc_38 X hX hG h1 h2 h3 h4 h5 hB next)
  · exact fr_tswI (tgt := 1305) (v := nI 39) X dL_law_33 hx (by decide) (by decide) rfl (by decide) (lc_39 X hX hG h1 h2 h3 h4 h5 hB next)
  · exact fr_tswI (tgt := 1318) (v := nI 40) X dL_law_33 hx (by decide) (by decide) rfl (by decide) (lc_40 X hX hG h1 h2 h3 h4 h5 hB next)
  · exact fr_tswI (tgt := 1341) (v := nI 41) X dL_law_33 hx (by decide) (by decide) rfl (by decide) (lc_41 X hX hG h1 h2 h3 h4 h5 hB next)
theorem lw_loop (X : CxB p s m #[Value.ref b] c G code 4 R_law) (hX : va_X b Ln xs s s.heap ∧ b < s.heap.size ∧ ¬ AG G b) (hG : gl G = l) (hL : Ln ≤ 3072) (done : ∀ z M, Fr p l e room_1 s m #[Value.ref b] below meth c G 600000 7302249 Qf 4 1361 [some (.ref b), some (.ref (ad G 0)), some (.ref (ad G 71)), some (.int z)] [] M) : ∀ (k i : Nat) (M : Mem), Bo M → i ≤ Ln → Ln ≤ i + 6 * k → Fr p l e room_1 s m #[Value.ref b] below meth c G 600000 7302249 Qf 4 18 [some (.ref b), some (.ref (ad G 0)), some (.ref (ad G 71)), some (.int (nI i))] [] M := by
  intro k
  induction k with
  | zero =>
    intro i M hB h1 h2
    refine fr_iload_n X dL_law_18 rfl rfl ?_
    refine fr_aload_n X dL_law_19 rfl rfl ?_
    refine fr_slen X hX dL_law_20 ?_
    refine fr_bipush (v := 6) X dL_law_21 (by decide) ?_
    refine fr_isub X dL_law_23 ?_
    exact fr_icmp_gt (tgt := 1361) X dL_law_24 (by decide) (fun _ => done _ M) (fun q => absurd ((lw_cmp (by omega) (by omega)).mpr (by omega)) q)
  | succ k ih =>
    intro i M hB h1 h2
    refine fr_iload_n X dL_law_18 rfl rfl ?_
    refine fr_aload_n X dL_law_19 rfl rfl ?_
    refine fr_slen X hX dL_law_20 ?_
    refine fr_bipush (v := 6) X dL_law_21 (by decide) ?_
    refine fr_isub X dL_law_23 ?_
    refine fr_icmp_gt (tgt := 1361) X dL_law_24 (by decide) (fun _ => done _ M) (fun q => ?_)
    have h6 : i + 6 ≤ Ln := by
      rcases Nat.lt_or_ge Ln (i + 6) with z | z
      · exact absurd ((lw_cmp (by omega) (by omega)).mpr z) q
      · exact z
    refine fr_aload_n X dL_law_27 rfl rfl ?_
    refine fr_iload_n X dL_law_28 rfl rfl ?_
    refine fr_sld X hX (vin (n := i) (by omega) (by omega)) dL_law_29 ?_
    refine fr_bipush (v := 63) X dL_law_30 (by decide) ?_
    refine fr_iand X dL_law_32 ?_
    have hk : ∀ k : Nat, k < 6 → vp_in (nI i + nI k) Ln := fun k hk => by
      rw [nI_add]
      exact vin (by omega) (by omega)
    refine lw_sw X hX hG (hk 1 (by decide)) (hk 2 (by decide)) (hk 3 (by decide)) (hk 4 (by decide)) (hk 5 (by decide)) hB fun M1 hB1 => ?_
    refine fr_iinc (v := nI (i + 6)) (ls' := [some (.ref b), some (.ref (ad G 0)), some (.ref (ad G 71)), some (.int (nI (i + 6)))]) X dL_law_1355 rfl (show nI i + nI 6 = nI (i + 6) from nI_add i 6) (by decide) rfl rfl ?_
    refine fr_goto (tgt := 18) X dL_law_1358 (by decide) ?_
    exact ih (i + 6) M1 hB1 h6 (by omega)
end LLP
