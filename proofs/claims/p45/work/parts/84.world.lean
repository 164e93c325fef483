/-! the world behind a constructor is the fixed graph, with its first memory -/
def ML0 : List (Nat → Int32) := [(fun _ => 0), (fun k => if k = 2 then 40 else 0), (fun _ => 0), (upd (upd (upd (upd (upd (upd (fun _ => 0) 0 (-1)) 1 (-1)) 2 (-1)) 3 (-1)) 4 (-1)) 5 (-1)), (fun k => if k = 2 then 60 else if k = 3 then 32 else 0), (fun _ => 0), (upd (upd (upd (upd (fun _ => 0) 0 (-1)) 1 (-1)) 2 (-1)) 3 (-1)), (fun _ => 0), (fun _ => 0), (fun _ => 0), (fun _ => 0), (fun _ => 0), (fun _ => 0), (fun _ => 0), (fun _ => 0), (fun _ => 0), (fun _ => 0), (fun k => if k = 1 then (-1) else 0), (fun k => if k = 1 then (-1) else 0), (fun k => if k = 1 then (-1) else 0), (fun _ => 0), (fun _ => 0), (fun _ => 0), (fun _ => 0), (fun _ => 0), (fun _ => 0), (fun _ => 0), (fun _ => 0), (fun _ => 0), (fun _ => 0), (fun _ => 0), (fun _ => 0), (fun _ => 0), (fun _ => 0), (fun _ => 0), (fun _ => 0), (fun _ => 0), (fun _ => 0), (fun _ => 0), (fun _ => 0), (fun _ => 0), (thr3 256), (fun _ => 0), (fun _ => 0), (fun _ => 0), (fun _ => 0), (fun _ => 0), (fun _ => 0), (fun _ => 0), (fun _ => 0), (fun _ => 0), (fun _ => 0), (fun _ => 0), (fun _ => 0), (fun _ => 0), (fun _ => 0), (fun _ => 0), (fun _ => 0), (fun _ => 0), (fun _ => 0), (fun _ => 0), (fun _ => 0), (fun _ => 0), (fun _ => 0), (fun _ => 0), (fun _ => 0), (fun _ => 0), (fun _ => 0), (fun _ => 0), (fun _ => 0), (fun _ => 0)]
def M0 : Mem := (fun a => ML0.getD a (fun _ => 0), fun a k => if a = 42 then (if k = 2 then 1 else 0) else 0)
def AL (x : Nat) (b : Nat → Nat) : List Nat := [x, b 0, b 1, b 2, b 3, b 4, b 5, b 6, b 7, b 8, b 9, b 10, b 11, b 12, b 13, b 14, b 23, b 24, b 26, b 28, b 25, b 27, b 29, b 30, b 31, b 32, b 33, b 34, b 35, b 36, b 37, b 38, b 39, b 48, b 49, b 50, b 51, b 52, b 53, b 54, b 55, b 56, b 57, b 58, b 59, b 1 + 1 + 0, b 1 + 1 + 1, b 1 + 1 + 2, b 1 + 1 + 3, b 1 + 1 + 4, b 1 + 1 + 5, b 4 + 1 + 0, b 4 + 1 + 1, b 4 + 1 + 2, b 4 + 1 + 3, b 15, b 16, b 17, b 18, b 19, b 20, b 21, b 22, b 40, b 41, b 42, b 43, b 44, b 45, b 46, b 47]
def G1 (G : Glob) (x : Nat) (b : Nat → Nat) : Glob := (G.1, G.2.1, G.2.2.1, fun i => (AL x b).getD i 0)
def piL : List Nat := [0, 1, 2, 9, 10, 11, 16, 17, 18, 19, 20, 21, 22, 23, 24, 25, 34, 35, 37, 39, 36, 38, 40, 41, 42, 43, 44, 45, 46, 47, 48, 49, 50, 59, 60, 61, 62, 63, 64, 65, 66, 67, 68, 69, 70, 3, 4, 5, 6, 7, 8, 12, 13, 14, 15, 26, 27, 28, 29, 30, 31, 32, 33, 51, 52, 53, 54, 55, 56, 57, 58]
section ASM
variable {G : Glob} {x : Nat} {b : Nat → Nat} {H : Heap}
theorem refs_at {D : va_G} {cl : List vw_C} {H : Heap} {a n : Nat} {c : ClassId} {f f' : Nat → Option Nat} (h : va_at D cl (a, .inl (c, n, .inr (.inr (.inr (.inr f))))) H) (hf : ∀ i, i < n → f i = f' i) : va_at D cl (a, .inl (c, n, .inr (.inr (.inr (.inr f'))))) H := by
  have e : vp_cell c (n, .inr (.inr (.inr (.inr f)))) = vp_cell c (n, .inr (.inr (.inr (.inr f')))) := by
    rw [vp_cell_q, vp_cell_q]
    unfold arrV
    congr 2
    funext j
    show va_rf (f j.val) = va_rf (f' j.val)
    rw [hf j.val j.isLt]
  show H[a]? = some (vp_cell c (n, .inr (.inr (.inr (.inr f')))))
  rw [← e]
  exact h
set_option maxRecDepth 20000 in
theorem as_0 (hP : va_P (gD G) vwCl (W_X10 G x b) H) : va_at (gD G) vwCl (ad (G1 G x b) 0, ent (G1 G x b) M0 0) H := hP 0 _ rfl
set_option maxRecDepth 20000 in
theorem as_1 (hP : va_P (gD G) vwCl (W_X10 G x b) H) : va_at (gD G) vwCl (ad (G1 G x b) 1, ent (G1 G x b) M0 1) H := hP 1 _ rfl
set_option maxRecDepth 20000 in
theorem as_2 (hP : va_P (gD G) vwCl (W_X10 G x b) H) : va_at (gD G) vwCl (ad (G1 G x b) 2, ent (G1 G x b) M0 2) H :=
  refs_at (a := b 1) (c := gc G 24) (n := 6) (f := (fun i => if i < 6 then some (b 1 + 1 + i) else none)) (f' := fun i => some (ad (G1 G x b) (rf 2 i))) (hP 2 _ rfl) (lt_s (lt_s (lt_s (lt_s (lt_s (lt_s lt_0 (rfl)) (rfl)) (rfl)) (rfl)) (rfl)) (rfl))
set_option maxRecDepth 20000 in
theorem as_3 (hP : va_P (gD G) vwCl (W_X10 G x b) H) : va_at (gD G) vwCl (ad (G1 G x b) 3, ent (G1 G x b) M0 3) H := hP 9 _ rfl
set_option maxRecDepth 20000 in
theorem as_4 (hP : va_P (gD G) vwCl (W_X10 G x b) H) : va_at (gD G) vwCl (ad (G1 G x b) 4, ent (G1 G x b) M0 4) H := hP 10 _ rfl
set_option maxRecDepth 20000 in
theorem as_5 (hP : va_P (gD G) vwCl (W_X10 G x b) H) : va_at (gD G) vwCl (ad (G1 G x b) 5, ent (G1 G x b) M0 5) H :=
  refs_at (a := b 4) (c := gc G 24) (n := 4) (f := (fun i => if i < 4 then some (b 4 + 1 + i) else none)) (f' := fun i => some (ad (G1 G x b) (rf 5 i))) (hP 11 _ rfl) (lt_s (lt_s (lt_s (lt_s lt_0 (rfl)) (rfl)) (rfl)) (rfl))
set_option maxRecDepth 20000 in
theorem as_6 (hP : va_P (gD G) vwCl (W_X10 G x b) H) : va_at (gD G) vwCl (ad (G1 G x b) 6, ent (G1 G x b) M0 6) H := hP 16 _ rfl
set_option maxRecDepth 20000 in
theorem as_7 (hP : va_P (gD G) vwCl (W_X10 G x b) H) : va_at (gD G) vwCl (ad (G1 G x b) 7, ent (G1 G x b) M0 7) H := hP 17 _ rfl
set_option maxRecDepth 20000 in
theorem as_8 (hP : va_P (gD G) vwCl (W_X10 G x b) H) : va_at (gD G) vwCl (ad (G1 G x b) 8, ent (G1 G x b) M0 8) H := hP 18 _ rfl
set_option maxRecDepth 20000 in
theorem as_9 (hP : va_P (gD G) vwCl (W_X10 G x b) H) : va_at (gD G) vwCl (ad (G1 G x b) 9, ent (G1 G x b) M0 9) H := hP 19 _ rfl
set_option maxRecDepth 20000 in
theorem as_10 (hP : va_P (gD G) vwCl (W_X10 G x b) H) : va_at (gD G) vwCl (ad (G1 G x b) 10, ent (G1 G x b) M0 10) H := hP 20 _ rfl
set_option maxRecDepth 20000 in
theorem as_11 (hP : va_P (gD G) vwCl (W_X10 G x b) H) : va_at (gD G) vwCl (ad (G1 G x b) 11, ent (G1 G x b) M0 11) H := hP 21 _ rfl
set_option maxRecDepth 20000 in
theorem as_12 (hP : va_P (gD G) vwCl (W_X10 G x b) H) : va_at (gD G) vwCl (ad (G1 G x b) 12, ent (G1 G x b) M0 12) H := hP 22 _ rfl
set_option maxRecDepth 20000 in
theorem as_13 (hP : va_P (gD G) vwCl (W_X10 G x b) H) : va_at (gD G) vwCl (ad (G1 G x b) 13, ent (G1 G x b) M0 13) H :=
  refs_at (a := b 12) (c := gc G 23) (n := 8) (f := (va_up (va_up (va_up (va_up (va_up (va_up (va_up (va_up (fun _ => none) 0 (some (b 15))) 1 (some (b 16))) 2 (some (b 17))) 3 (some (b 18))) 4 (some (b 19))) 5 (some (b 20))) 6 (some (b 21))) 7 (some (b 22)))) (f' := fun i => some (ad (G1 G x b) (rf 13 i))) (hP 23 _ rfl) (lt_s (lt_s (lt_s (lt_s (lt_s (lt_s (lt_s (lt_s lt_0 (rfl)) (rfl)) (rfl)) (rfl)) (rfl)) (rfl)) (rfl)) (rfl))
set_option maxRecDepth 20000 in
theorem as_14 (hP : va_P (gD G) vwCl (W_X10 G x b) H) : va_at (gD G) vwCl (ad (G1 G x b) 14, ent (G1 G x b) M0 14) H := hP 24 _ rfl
set_option maxRecDepth 20000 in
theorem as_15 (hP : va_P (gD G) vwCl (W_X10 G x b) H) : va_at (gD G) vwCl (ad (G1 G x b) 15, ent (G1 G x b) M0 15) H := hP 25 _ rfl
set_option maxRecDepth 20000 in
theorem as_16 (hP : va_P (gD G) vwCl (W_X10 G x b) H) : va_at (gD G) vwCl (ad (G1 G x b) 16, ent (G1 G x b) M0 16) H :=
  refs_at (a := b 23) (c := gc G 22) (n := 3) (f := (va_up (va_up (va_up (fun _ => none) 0 (some (b 24))) 1 (some (b 26))) 2 (some (b 28)))) (f' := fun i => some (ad (G1 G x b) (rf 16 i))) (hP 34 _ rfl) (lt_s (lt_s (lt_s lt_0 (rfl)) (rfl)) (rfl))
set_option maxRecDepth 20000 in
theorem as_17 (hP : va_P (gD G) vwCl (W_X10 G x b) H) : va_at (gD G) vwCl (ad (G1 G x b) 17, ent (G1 G x b) M0 17) H := hP 35 _ rfl
set_option maxRecDepth 20000 in
theorem as_18 (hP : va_P (gD G) vwCl (W_X10 G x b) H) : va_at (gD G) vwCl (ad (G1 G x b) 18, ent (G1 G x b) M0 18) H := hP 37 _ rfl
set_option maxRecDepth 20000 in
theorem as_19 (hP : va_P (gD G) vwCl (W_X10 G x b) H) : va_at (gD G) vwCl (ad (G1 G x b) 19, ent (G1 G x b) M0 19) H := hP 39 _ rfl
set_option maxRecDepth 20000 in
theorem as_20 (hP : va_P (gD G) vwCl (W_X10 G x b) H) : va_at (gD G) vwCl (ad (G1 G x b) 20, ent (G1 G x b) M0 20) H := hP 36 _ rfl
set_option maxRecDepth 20000 in
theorem as_21 (hP : va_P (gD G) vwCl (W_X10 G x b) H) : va_at (gD G) vwCl (ad (G1 G x b) 21, ent (G1 G x b) M0 21) H := hP 38 _ rfl
set_option maxRecDepth 20000 in
theorem as_22 (hP : va_P (gD G) vwCl (W_X10 G x b) H) : va_at (gD G) vwCl (ad (G1 G x b) 22, ent (G1 G x b) M0 22) H := hP 40 _ rfl
set_option maxRecDepth 20000 in
theorem as_23 (hP : va_P (gD G) vwCl (W_X10 G x b) H) : va_at (gD G) vwCl (ad (G1 G x b) 23, ent (G1 G x b) M0 23) H := hP 41 _ rfl
set_option maxRecDepth 20000 in
theorem as_24 (hP : va_P (gD G) vwCl (W_X10 G x b) H) : va_at (gD G) vwCl (ad (G1 G x b) 24, ent (G1 G x b) M0 24) H := hP 42 _ rfl
set_option maxRecDepth 20000 in
theorem as_25 (hP : va_P (gD G) vwCl (W_X10 G x b) H) : va_at (gD G) vwCl (ad (G1 G x b) 25, ent (G1 G x b) M0 25) H := hP 43 _ rfl
set_option maxRecDepth 20000 in
theorem as_26 (hP : va_P (gD G) vwCl (W_X10 G x b) H) : va_at (gD G) vwCl (ad (G1 G x b) 26, ent (G1 G x b) M0 26) H := hP 44 _ rfl
set_option maxRecDepth 20000 in
theorem as_27 (hP : va_P (gD G) vwCl (W_X10 G x b) H) : va_at (gD G) vwCl (ad (G1 G x b) 27, ent (G1 G x b) M0 27) H := hP 45 _ rfl
set_option maxRecDepth 20000 in
theorem as_28 (hP : va_P (gD G) vwCl (W_X10 G x b) H) : va_at (gD G) vwCl (ad (G1 G x b) 28, ent (G1 G x b) M0 28) H := hP 46 _ rfl
set_option maxRecDepth 20000 in
theorem as_29 (hP : va_P (gD G) vwCl (W_X10 G x b) H) : va_at (gD G) vwCl (ad (G1 G x b) 29, ent (G1 G x b) M0 29) H := hP 47 _ rfl
set_option maxRecDepth 20000 in
theorem as_30 (hP : va_P (gD G) vwCl (W_X10 G x b) H) : va_at (gD G) vwCl (ad (G1 G x b) 30, ent (G1 G x b) M0 30) H :=
  refs_at (a := b 37) (c := gc G 23) (n := 8) (f := (va_up (va_up (va_up (va_up (va_up (va_up (va_up (va_up (fun _ => none) 0 (some (b 40))) 1 (some (b 41))) 2 (some (b 42))) 3 (some (b 43))) 4 (some (b 44))) 5 (some (b 45))) 6 (some (b 46))) 7 (some (b 47)))) (f' := fun i => some (ad (G1 G x b) (rf 30 i))) (hP 48 _ rfl) (lt_s (lt_s (lt_s (lt_s (lt_s (lt_s (lt_s (lt_s lt_0 (rfl)) (rfl)) (rfl)) (rfl)) (rfl)) (rfl)) (rfl)) (rfl))
set_option maxRecDepth 20000 in
theorem as_31 (hP : va_P (gD G) vwCl (W_X10 G x b) H) : va_at (gD G) vwCl (ad (G1 G x b) 31, ent (G1 G x b) M0 31) H := hP 49 _ rfl
set_option maxRecDepth 20000 in
theorem as_32 (hP : va_P (gD G) vwCl (W_X10 G x b) H) : va_at (gD G) vwCl (ad (G1 G x b) 32, ent (G1 G x b) M0 32) H := hP 50 _ rfl
set_option maxRecDepth 20000 in
theorem as_33 (hP : va_P (gD G) vwCl (W_X10 G x b) H) : va_at (gD G) vwCl (ad (G1 G x b) 33, ent (G1 G x b) M0 33) H := hP 59 _ rfl
set_option maxRecDepth 20000 in
theorem as_34 (hP : va_P (gD G) vwCl (W_X10 G x b) H) : va_at (gD G) vwCl (ad (G1 G x b) 34, ent (G1 G x b) M0 34) H := hP 60 _ rfl
set_option maxRecDepth 20000 in
theorem as_35 (hP : va_P (gD G) vwCl (W_X10 G x b) H) : va_at (gD G) vwCl (ad (G1 G x b) 35, ent (G1 G x b) M0 35) H := hP 61 _ rfl
set_option maxRecDepth 20000 in
theorem as_36 (hP : va_P (gD G) vwCl (W_X10 G x b) H) : va_at (gD G) vwCl (ad (G1 G x b) 36, ent (G1 G x b) M0 36) H := hP 62 _ rfl
set_option maxRecDepth 20000 in
theorem as_37 (hP : va_P (gD G) vwCl (W_X10 G x b) H) : va_at (gD G) vwCl (ad (G1 G x b) 37, ent (G1 G x b) M0 37) H := hP 63 _ rfl
set_option maxRecDepth 20000 in
theorem as_38 (hP : va_P (gD G) vwCl (W_X10 G x b) H) : va_at (gD G) vwCl (ad (G1 G x b) 38, ent (G1 G x b) M0 38) H := hP 64 _ rfl
set_option maxRecDepth 20000 in
theorem as_39 (hP : va_P (gD G) vwCl (W_X10 G x b) H) : va_at (gD G) vwCl (ad (G1 G x b) 39, ent (G1 G x b) M0 39) H := hP 65 _ rfl
set_option maxRecDepth 20000 in
theorem as_40 (hP : va_P (gD G) vwCl (W_X10 G x b) H) : va_at (gD G) vwCl (ad (G1 G x b) 40, ent (G1 G x b) M0 40) H := hP 66 _ rfl
set_option maxRecDepth 20000 in
theorem as_41 (hP : va_P (gD G) vwCl (W_X10 G x b) H) : va_at (gD G) vwCl (ad (G1 G x b) 41, ent (G1 G x b) M0 41) H := hP 67 _ rfl
set_option maxRecDepth 20000 in
theorem as_42 (hP : va_P (gD G) vwCl (W_X10 G x b) H) : va_at (gD G) vwCl (ad (G1 G x b) 42, ent (G1 G x b) M0 42) H := hP 68 _ rfl
set_option maxRecDepth 20000 in
theorem as_43 (hP : va_P (gD G) vwCl (W_X10 G x b) H) : va_at (gD G) vwCl (ad (G1 G x b) 43, ent (G1 G x b) M0 43) H := hP 69 _ rfl
set_option maxRecDepth 20000 in
theorem as_44 (hP : va_P (gD G) vwCl (W_X10 G x b) H) : va_at (gD G) vwCl (ad (G1 G x b) 44, ent (G1 G x b) M0 44) H := hP 70 _ rfl
set_option maxRecDepth 20000 in
theorem as_45 (hP : va_P (gD G) vwCl (W_X10 G x b) H) : va_at (gD G) vwCl (ad (G1 G x b) 45, ent (G1 G x b) M0 45) H := hP 3 _ rfl
set_option maxRecDepth 20000 in
theorem as_46 (hP : va_P (gD G) vwCl (W_X10 G x b) H) : va_at (gD G) vwCl (ad (G1 G x b) 46, ent (G1 G x b) M0 46) H := hP 4 _ rfl
set_option maxRecDepth 20000 in
theorem as_47 (hP : va_P (gD G) vwCl (W_X10 G x b) H) : va_at (gD G) vwCl (ad (G1 G x b) 47, ent (G1 G x b) M0 47) H := hP 5 _ rfl
set_option maxRecDepth 20000 in
theorem as_48 (hP : va_P (gD G) vwCl (W_X10 G x b) H) : va_at (gD G) vwCl (ad (G1 G x b) 48, ent (G1 G x b) M0 48) H := hP 6 _ rfl
set_option maxRecDepth 20000 in
theorem as_49 (hP : va_P (gD G) vwCl (W_X10 G x b) H) : va_at (gD G) vwCl (ad (G1 G x b) 49, ent (G1 G x b) M0 49) H := hP 7 _ rfl
set_option maxRecDepth 20000 in
theorem as_50 (hP : va_P (gD G) vwCl (W_X10 G x b) H) : va_at (gD G) vwCl (ad (G1 G x b) 50, ent (G1 G x b) M0 50) H := hP 8 _ rfl
set_option maxRecDepth 20000 in
theorem as_51 (hP : va_P (gD G) vwCl (W_X10 G x b) H) : va_at (gD G) vwCl (ad (G1 G x b) 51, ent (G1 G x b) M0 51) H := hP 12 _ rfl
set_option maxRecDepth 20000 in
theorem as_52 (hP : va_P (gD G) vwCl (W_X10 G x b) H) : va_at (gD G) vwCl (ad (G1 G x b) 52, ent (G1 G x b) M0 52) H := hP 13 _ rfl
set_option maxRecDepth 20000 in
theorem as_53 (hP : va_P (gD G) vwCl (W_X10 G x b) H) : va_at (gD G) vwCl (ad (G1 G x b) 53, ent (G1 G x b) M0 53) H := hP 14 _ rfl
set_option maxRecDepth 20000 in
theorem as_54 (hP : va_P (gD G) vwCl (W_X10 G x b) H) : va_at (gD G) vwCl (ad (G1 G x b) 54, ent (G1 G x b) M0 54) H := hP 15 _ rfl
set_option maxRecDepth 20000 in
theorem as_55 (hP : va_P (gD G) vwCl (W_X10 G x b) H) : va_at (gD G) vwCl (ad (G1 G x b) 55, ent (G1 G x b) M0 55) H := hP 26 _ rfl
set_option maxRecDepth 20000 in
theorem as_56 (hP : va_P (gD G) vwCl (W_X10 G x b) H) : va_at (gD G) vwCl (ad (G1 G x b) 56, ent (G1 G x b) M0 56) H := hP 27 _ rfl
set_option maxRecDepth 20000 in
theorem as_57 (hP : va_P (gD G) vwCl (W_X10 G x b) H) : va_at (gD G) vwCl (ad (G1 G x b) 57, ent (G1 G x b) M0 57) H := hP 28 _ rfl
set_option maxRecDepth 20000 in
theorem as_58 (hP : va_P (gD G) vwCl (W_X10 G x b) H) : va_at (gD G) vwCl (ad (G1 G x b) 58, ent (G1 G x b) M0 58) H := hP 29 _ rfl
set_option maxRecDepth 20000 in
theorem as_59 (hP : va_P (gD G) vwCl (W_X10 G x b) H) : va_at (gD G) vwCl (ad (G1 G x b) 59, ent (G1 G x b) M0 59) H := hP 30 _ rfl
set_option maxRecDepth 20000 in
theorem as_60 (hP : va_P (gD G) vwCl (W_X10 G x b) H) : va_at (gD G) vwCl (ad (G1 G x b) 60, ent (G1 G x b) M0 60) H := hP 31 _ rfl
set_option maxRecDepth 20000 in
theorem as_61 (hP : va_P (gD G) vwCl (W_X10 G x b) H) : va_at (gD G) vwCl (ad (G1 G x b) 61, ent (G1 G x b) M0 61) H := hP 32 _ rfl
set_option maxRecDepth 20000 in
theorem as_62 (hP : va_P (gD G) vwCl (W_X10 G x b) H) : va_at (gD G) vwCl (ad (G1 G x b) 62, ent (G1 G x b) M0 62) H := hP 33 _ rfl
set_option maxRecDepth 20000 in
theorem as_63 (hP : va_P (gD G) vwCl (W_X10 G x b) H) : va_at (gD G) vwCl (ad (G1 G x b) 63, ent (G1 G x b) M0 63) H := hP 51 _ rfl
set_option maxRecDepth 20000 in
theorem as_64 (hP : va_P (gD G) vwCl (W_X10 G x b) H) : va_at (gD G) vwCl (ad (G1 G x b) 64, ent (G1 G x b) M0 64) H := hP 52 _ rfl
set_option maxRecDepth 20000 in
theorem as_65 (hP : va_P (gD G) vwCl (W_X10 G x b) H) : va_at (gD G) vwCl (ad (G1 G x b) 65, ent (G1 G x b) M0 65) H := hP 53 _ rfl
set_option maxRecDepth 20000 in
theorem as_66 (hP : va_P (gD G) vwCl (W_X10 G x b) H) : va_at (gD G) vwCl (ad (G1 G x b) 66, ent (G1 G x b) M0 66) H := hP 54 _ rfl
set_option maxRecDepth 20000 in
theorem as_67 (hP : va_P (gD G) vwCl (W_X10 G x b) H) : va_at (gD G) vwCl (ad (G1 G x b) 67, ent (G1 G x b) M0 67) H := hP 55 _ rfl
set_option maxRecDepth 20000 in
theorem as_68 (hP : va_P (gD G) vwCl (W_X10 G x b) H) : va_at (gD G) vwCl (ad (G1 G x b) 68, ent (G1 G x b) M0 68) H := hP 56 _ rfl
set_option maxRecDepth 20000 in
theorem as_69 (hP : va_P (gD G) vwCl (W_X10 G x b) H) : va_at (gD G) vwCl (ad (G1 G x b) 69, ent (G1 G x b) M0 69) H := hP 57 _ rfl
set_option maxRecDepth 20000 in
theorem as_70 (hP : va_P (gD G) vwCl (W_X10 G x b) H) : va_at (gD G) vwCl (ad (G1 G x b) 70, ent (G1 G x b) M0 70) H := hP 58 _ rfl
end ASM
