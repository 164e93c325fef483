/-! the law's calls, one by one -/
section LCS
variable {p : Program} {l : Launch} {e : Env} {s : State} {m : MethodId} {below : List Frame} {meth : Method} {c : Code} {Qf : State → Prop} {G : Glob} {M : Mem} {b Ln : Nat} {xs : Nat → Int32} {z : Int32}
theorem fr_sld {cells slots nL pc : Nat} {cc : ByteArray} {own : String} {R : Room} {args : Array Value} {ls : LL} {st : List Value} (X : CxB p s m args c G cc nL own) (hX : va_X b Ln xs s s.heap ∧ b < s.heap.size ∧ ¬ AG G b) {i : Int32} (hin : vp_in i Ln) (hd : decode cc pc = .ok (.iaload, 1)) (K : Fr p l e R s m args below meth c G cells slots Qf nL (pc + 1) ls (.int (xs i.toNatClampNeg) :: st) M) : Fr p l e R s m args below meth c G cells slots Qf nL pc ls (.int i :: .ref b :: st) M :=
  fun H locs la hP hS hL => va_sld X.1 X.2.1 hX.1 hX.2.1 hX.2.2 hS hin hd (K H locs la hP hS hL)
theorem fr_slen {cells slots nL pc : Nat} {cc : ByteArray} {own : String} {R : Room} {args : Array Value} {ls : LL} {st : List Value} (X : CxB p s m args c G cc nL own) (hX : va_X b Ln xs s s.heap ∧ b < s.heap.size ∧ ¬ AG G b) (hd : decode cc pc = .ok (.arraylength, 1)) (K : Fr p l e R s m args below meth c G cells slots Qf nL (pc + 1) ls (.int (nI Ln) :: st) M) : Fr p l e R s m args below meth c G cells slots Qf nL pc ls (.ref b :: st) M :=
  fun H locs la hP hS hL => va_slen X.1 X.2.1 hX.1 hX.2.1 hX.2.2 hS hd (K H locs la hP hS hL)
set_option maxRecDepth 20000 in
theorem lc_0 (X : CxB p s m #[Value.ref b] c G code 4 R_law) (hX : va_X b Ln xs s s.heap ∧ b < s.heap.size ∧ ¬ AG G b) (hG : gl G = l) (h1 : vp_in (z + 1) Ln) (h2 : vp_in (z + 2) Ln) (h3 : vp_in (z + 3) Ln) (h4 : vp_in (z + 4) Ln) (h5 : vp_in (z + 5) Ln) (hB : Bo M) (next : ∀ M, Bo M → Fr p l e room_1 s m #[Value.ref b] below meth c G 600000 7302249 Qf 4 1355 [some (.ref b), some (.ref (ad G 0)), some (.ref (ad G 71)), some (.int z)] [] M) : Fr p l e room_1 s m #[Value.ref b] below meth c G 600000 7302249 Qf 4 216 [some (.ref b), some (.ref (ad G 0)), some (.ref (ad G 71)), some (.int z)] [] M := by
  refine fr_aload_n X dL_law_216 rfl rfl ?_
  refine fr_aload_n X dL_law_217 rfl rfl ?_
  refine fr_iload_n X dL_law_218 rfl rfl ?_
  refine fr_iconst (v := 1) X dL_law_219 (by decide) ?_
  refine fr_iadd X dL_law_220 ?_
  refine fr_sld X hX h1 dL_law_221 ?_
  refine fr_aload_n X dL_law_222 rfl rfl ?_
  refine fr_iload_n X dL_law_223 rfl rfl ?_
  refine fr_iconst (v := 2) X dL_law_224 (by decide) ?_
  refine fr_iadd X dL_law_225 ?_
  refine fr_sld X hX h2 dL_law_226 ?_
  refine fr_callV (a := 0) (d := 3) (As := [.int (xs (z + 1).toNatClampNeg), .int (xs (z + 2).toNatClampNeg)]) (st := []) X dL_law_227 rfl cm_X10_row m_2_71 ⟨Nat.le_of_ble_eq_true rfl, Nat.le_of_ble_eq_true rfl, Nat.le_of_ble_eq_true rfl, Nat.le_of_ble_eq_true rfl⟩ rfl (Nat.le_of_ble_eq_true rfl) rfl hG (law_row hB ((xs (z + 1).toNatClampNeg)) ((xs (z + 2).toNatClampNeg))) (fun v M1 h => ?_)
  obtain ⟨r1, rfl, h⟩ := h
  show Fr p l e room_1 s m #[Value.ref b] below meth c G 600000 7302249 Qf 4 230 [some (.ref b), some (.ref (ad G 0)), some (.ref (ad G 71)), some (.int z)] [.int r1] M1
  refine fr_aload_n X dL_law_230 rfl rfl ?_
  refine fr_aload_n X dL_law_231 rfl rfl ?_
  refine fr_iload_n X dL_law_232 rfl rfl ?_
  refine fr_iconst (v := 1) X dL_law_233 (by decide) ?_
  refine fr_iadd X dL_law_234 ?_
  refine fr_sld X hX h1 dL_law_235 ?_
  refine fr_aload_n X dL_law_236 rfl rfl ?_
  refine fr_iload_n X dL_law_237 rfl rfl ?_
  refine fr_iconst (v := 2) X dL_law_238 (by decide) ?_
  refine fr_iadd X dL_law_239 ?_
  refine fr_sld X hX h2 dL_law_240 ?_
  refine fr_callV (a := 71) (d := 3) (As := [.int (xs (z + 1).toNatClampNeg), .int (xs (z + 2).toNatClampNeg)]) (st := [.int r1]) X dL_law_241 rfl cm_X11_row m_5_25 ⟨Nat.le_of_ble_eq_true rfl, Nat.le_of_ble_eq_true rfl, Nat.le_of_ble_eq_true rfl, Nat.le_of_ble_eq_true rfl⟩ rfl (Nat.le_of_ble_eq_true rfl) rfl hG h (fun v M2 h => ?_)
  obtain ⟨r2, rfl, h0, h⟩ := h
  show Fr p l e room_1 s m #[Value.ref b] below meth c G 600000 7302249 Qf 4 244 [some (.ref b), some (.ref (ad G 0)), some (.ref (ad G 71)), some (.int z)] [.int r2, .int r1] M2
  exact fr_icmp_eq (tgt := 1355) X dL_law_244 (by decide) (fun _ => next M2 h) (fun q => absurd h0 q)
set_option maxRecDepth 20000 in
theorem lc_1 (X : CxB p s m #[Value.ref b] c G code 4 R_law) (hX : va_X b Ln xs s s.heap ∧ b < s.heap.size ∧ ¬ AG G b) (hG : gl G = l) (h1 : vp_in (z + 1) Ln) (h2 : vp_in (z + 2) Ln) (h3 : vp_in (z + 3) Ln) (h4 : vp_in (z + 4) Ln) (h5 : vp_in (z + 5) Ln) (hB : Bo M) (next : ∀ M, Bo M → Fr p l e room_1 s m #[Value.ref b] below meth c G 600000 7302249 Qf 4 1355 [some (.ref b), some (.ref (ad G 0)), some (.ref (ad G 71)), some (.int z)] [] M) : Fr p l e room_1 s m #[Value.ref b] below meth c G 600000 7302249 Qf 4 249 [some (.ref b), some (.ref (ad G 0)), some (.ref (ad G 71)), some (.int z)] [] M := by
  refine fr_aload_n X dL_law_249 rfl rfl ?_
  refine fr_aload_n X dL_law_250 rfl rfl ?_
  refine fr_iload_n X dL_law_251 rfl rfl ?_
  refine fr_iconst (v := 1) X dL_law_252 (by decide) ?_
  refine fr_iadd X dL_law_253 ?_
  refine fr_sld X hX h1 dL_law_254 ?_
  refine fr_aload_n X dL_law_255 rfl rfl ?_
  refine fr_iload_n X dL_law_256 rfl rfl ?_
  refine fr_iconst (v := 2) X dL_law_257 (by decide) ?_
  refine fr_iadd X dL_law_258 ?_
  refine fr_sld X hX h2 dL_law_259 ?_
  refine fr_aload_n X dL_law_260 rfl rfl ?_
  refine fr_iload_n X dL_law_261 rfl rfl ?_
  refine fr_iconst (v := 3) X dL_law_262 (by decide) ?_
  refine fr_iadd X dL_law_263 ?_
  refine fr_sld X hX h3 dL_law_264 ?_
  refine fr_callV (a := 0) (d := 6) (As := [.int (xs (z + 1).toNatClampNeg), .int (xs (z + 2).toNatClampNeg), .int (xs (z + 3).toNatClampNeg)]) (st := []) X dL_law_265 rfl cm_X10_lay m_2_88 ⟨Nat.le_of_ble_eq_true rfl, Nat.le_of_ble_eq_true rfl, Nat.le_of_ble_eq_true rfl, Nat.le_of_ble_eq_true rfl⟩ rfl (Nat.le_of_ble_eq_true rfl) rfl hG (law_lay hB ((xs (z + 1).toNatClampNeg)) ((xs (z + 2).toNatClampNeg)) ((xs (z + 3).toNatClampNeg))) (fun v M1 h => ?_)
  obtain ⟨r1, rfl, h⟩ := h
  show Fr p l e room_1 s m #[Value.ref b] below meth c G 600000 7302249 Qf 4 268 [some (.ref b), some (.ref (ad G 0)), some (.ref (ad G 71)), some (.int z)] [.int r1] M1
  refine fr_aload_n X dL_law_268 rfl rfl ?_
  refine fr_aload_n X dL_law_269 rfl rfl ?_
  refine fr_iload_n X dL_law_270 rfl rfl ?_
  refine fr_iconst (v := 1) X dL_law_271 (by decide) ?_
  refine fr_iadd X dL_law_272 ?_
  refine fr_sld X hX h1 dL_law_273 ?_
  refine fr_aload_n X dL_law_274 rfl rfl ?_
  refine fr_iload_n X dL_law_275 rfl rfl ?_
  refine fr_iconst (v := 2) X dL_law_276 (by decide) ?_
  refine fr_iadd X dL_law_277 ?_
  refine fr_sld X hX h2 dL_law_278 ?_
  refine fr_aload_n X dL_law_279 rfl rfl ?_
  refine fr_iload_n X dL_law_280 rfl rfl ?_
  refine fr_iconst (v := 3) X dL_law_281 (by decide) ?_
  refine fr_iadd X dL_law_282 ?_
  refine fr_sld X hX h3 dL_law_283 ?_
  refine fr_callV (a := 71) (d := 3) (As := [.int (xs (z + 1).toNatClampNeg), .int (xs (z + 2).toNatClampNeg), .int (xs (z + 3).toNatClampNeg)]) (st := [.int r1]) X dL_law_284 rfl cm_X11_lay m_5_43 ⟨Nat.le_of_ble_eq_true rfl, Nat.le_of_ble_eq_true rfl, Nat.le_of_ble_eq_true rfl, Nat.le_of_ble_eq_true rfl⟩ rfl (Nat.le_of_ble_eq_true rfl) rfl hG h (fun v M2 h => ?_)
  obtain ⟨r2, rfl, h0, h⟩ := h
  show Fr p l e room_1 s m #[Value.ref b] below meth c G 600000 7302249 Qf 4 287 [some (.ref b), some (.ref (ad G 0)), some (.ref (ad G 71)), some (.int z)] [.int r2, .int r1] M2
  exact fr_icmp_eq (tgt := 1355) X dL_law_287 (by decide) (fun _ => next M2 h) (fun q => absurd h0 q)
set_option maxRecDepth 20000 in
theorem lc_2 (X : CxB p s m #[Value.ref b] c G code 4 R_law) (hX : va_X b Ln xs s s.heap ∧ b < s.heap.size ∧ ¬ AG G b) (hG : gl G = l) (h1 : vp_in (z + 1) Ln) (h2 : vp_in (z + 2) Ln) (h3 : vp_in (z + 3) Ln) (h4 : vp_in (z + 4) Ln) (h5 : vp_in (z + 5) Ln) (hB : Bo M) (next : ∀ M, Bo M → Fr p l e room_1 s m #[Value.ref b] below meth c G 600000 7302249 Qf 4 1355 [some (.ref b), some (.ref (ad G 0)), some (.ref (ad G 71)), some (.int z)] [] M) : Fr p l e room_1 s m #[Value.ref b] below meth c G 600000 7302249 Qf 4 292 [some (.ref b), some (.ref (ad G 0)), some (.ref (ad G 71)), some (.int z)] [] M := by
  refine fr_aload_n X dL_law_292 rfl rfl ?_
  refine fr_aload_n X dL_law_293 rfl rfl ?_
  refine fr_iload_n X dL_law_294 rfl rfl ?_
  refine fr_iconst (v := 1) X dL_law_295 (by decide) ?_
  refine fr_iadd X dL_law_296 ?_
  refine fr_sld X hX h1 dL_law_297 ?_
  refine fr_aload_n X dL_law_298 rfl rfl ?_
  refine fr_iload_n X dL_law_299 rfl rfl ?_
  refine fr_iconst (v := 2) X dL_law_300 (by decide) ?_
  refine fr_iadd X dL_law_301 ?_
  refine fr_sld X hX h2 dL_law_302 ?_
  refine fr_callV (a := 0) (d := 6) (As := [.int (xs (z + 1).toNatClampNeg), .int (xs (z + 2).toNatClampNeg)]) (st := []) X dL_law_303 rfl cm_X10_at m_2_125 ⟨Nat.le_of_ble_eq_true rfl, Nat.le_of_ble_eq_true rfl, Nat.le_of_ble_eq_true rfl, Nat.le_of_ble_eq_true rfl⟩ rfl (Nat.le_of_ble_eq_true rfl) rfl hG (law_at hB ((xs (z + 1).toNatClampNeg)) ((xs (z + 2).toNatClampNeg))) (fun v M1 h => ?_)
  obtain ⟨r1, rfl, h⟩ := h
  show Fr p l e room_1 s m #[Value.ref b] below meth c G 600000 7302249 Qf 4 306 [some (.ref b), some (.ref (ad G 0)), some (.ref (ad G 71)), some (.int z)] [.int r1] M1
  refine fr_aload_n X dL_law_306 rfl rfl ?_
  refine fr_aload_n X dL_law_307 rfl rfl ?_
  refine fr_iload_n X dL_law_308 rfl rfl ?_
  refine fr_iconst (v := 1) X dL_law_309 (by decide) ?_
  refine fr_iadd X dL_law_310 ?_
  refine fr_sld X hX h1 dL_law_311 ?_
  refine fr_aload_n X dL_law_312 rfl rfl ?_
  refine fr_iload_n X dL_law_313 rfl rfl ?_
  refine fr_iconst (v := 2) X dL_law_314 (by decide) ?_
  refine fr_iadd X dL_law_315 ?_
  refine fr_sld X hX h2 dL_law_316 ?_
  refine fr_callV (a := 71) (d := 3) (As := [.int (xs (z + 1).toNatClampNeg), .int (xs (z + 2).toNatClampNeg)]) (st := [.int r1]) X dL_law_317 rfl cm_X11_at m_5_51 ⟨Nat.le_of_ble_eq_true rfl, Nat.le_of_ble_eq_true rfl, Nat.le_of_ble_eq_true rfl, Nat.le_of_ble_eq_true rfl⟩ rfl (Nat.le_of_ble_eq_true rfl) rfl hG h (fun v M2 h => ?_)
  obtain ⟨r2, rfl, h0, h⟩ := h
  show Fr p l e room_1 s m #[Value.ref b] below meth c G 600000 7302249 Qf 4 320 [some (.ref b), some (.ref (ad G 0)), some (.ref (ad G 71)), some (.int z)] [.int r2, .int r1] M2
  exact fr_icmp_eq (tgt := 1355) X dL_law_320 (by decide) (fun _ => next M2 h) (fun q => absurd h0 q)
set_option maxRecDepth 20000 in
theorem lc_3 (X : CxB p s m #[Value.ref b] c G code 4 R_law) (hX : va_X b Ln xs s s.heap ∧ b < s.heap.size ∧ ¬ AG G b) (hG : gl G = l) (h1 : vp_in (z + 1) Ln) (h2 : vp_in (z + 2) Ln) (h3 : vp_in (z + 3) Ln) (h4 : vp_in (z + 4) Ln) (h5 : vp_in (z + 5) Ln) (hB : Bo M) (next : ∀ M, Bo M → Fr p l e room_1 s m #[Value.ref b] below meth c G 600000 7302249 Qf 4 1355 [some (.ref b), some (.ref (ad G 0)), some (.ref (ad G 71)), some (.int z)] [] M) : Fr p l e room_1 s m #[Value.ref b] below meth c G 600000 7302249 Qf 4 325 [some (.ref b), some (.ref (ad G 0)), some (.ref (ad G 71)), some (.int z)] [] M := by
  refine fr_aload_n X dL_law_325 rfl rfl ?_
  refine fr_aload_n X dL_law_326 rfl rfl ?_
  refine fr_iload_n X dL_law_327 rfl rfl ?_
  refine fr_iconst (v := 1) X dL_law_328 (by decide) ?_
  refine fr_iadd X dL_law_329 ?_
  refine fr_sld X hX h1 dL_law_330 ?_
  refine fr_callV (a := 0) (d := 5) (As := [.int (xs (z + 1).toNatClampNeg)]) (st := []) X dL_law_331 rfl cm_X10_tear m_2_129 ⟨Nat.le_of_ble_eq_true rfl, Nat.le_of_ble_eq_true rfl, Nat.le_of_ble_eq_true rfl, Nat.le_of_ble_eq_true rfl⟩ rfl (Nat.le_of_ble_eq_true rfl) rfl hG (law_tear hB ((xs (z + 1).toNatClampNeg))) (fun v M1 h => ?_)
  obtain ⟨r1, rfl, h⟩ := h
  show Fr p l e room_1 s m #[Value.ref b] below meth c G 600000 7302249 Qf 4 334 [some (.ref b), some (.ref (ad G 0)), some (.ref (ad G 71)), some (.int z)] [.int r1] M1
  refine fr_aload_n X dL_law_334 rfl rfl ?_
  refine fr_aload_n X dL_law_335 rfl rfl ?_
  refine fr_iload_n X dL_law_336 rfl rfl ?_
  refine fr_iconst (v := 1) X dL_law_337 (by decide) ?_
  refine fr_iadd X dL_law_338 ?_
  refine fr_sld X hX h1 dL_law_339 ?_
  refine fr_callV (a := 71) (d := 3) (As := [.int (xs (z + 1).toNatClampNeg)]) (st := [.int r1]) X dL_law_340 rfl cm_X11_tear m_5_55 ⟨Nat.le_of_ble_eq_true rfl, Nat.le_of_ble_eq_true rfl, Nat.le_of_ble_eq_true rfl, Nat.le_of_ble_eq_true rfl⟩ rfl (Nat.le_of_ble_eq_true rfl) rfl hG h (fun v M2 h => ?_)
  obtain ⟨r2, rfl, h0, h⟩ := h
  show Fr p l e room_1 s m #[Value.ref b] below meth c G 600000 7302249 Qf 4 343 [some (.ref b), some (.ref (ad G 0)), some (.ref (ad G 71)), some (.int z)] [.int r2, .int r1] M2
  exact fr_icmp_eq (tgt := 1355) X dL_law_343 (by decide) (fun _ => next M2 h) (fun q => absurd h0 q)
set_option maxRecDepth 20000 in
theorem lc_4 (X : CxB p s m #[Value.ref b] c G code 4 R_law) (hX : va_X b Ln xs s s.heap ∧ b < s.heap.size ∧ ¬ AG G b) (hG : gl G = l) (h1 : vp_in (z + 1) Ln) (h2 : vp_in (z + 2) Ln) (h3 : vp_in (z + 3) Ln) (h4 : vp_in (z + 4) Ln) (h5 : vp_in (z + 5) Ln) (hB : Bo M) (next : ∀ M, Bo M → Fr p l e room_1 s m #[Value.ref b] below meth c G 600000 7302249 Qf 4 1355 [some (.ref b), some (.ref (ad G 0)), some (.ref (ad G 71)), some (.int z)] [] M) : Fr p l e room_1 s m #[Value.ref b] below meth c G 600000 7302249 Qf 4 348 [some (.ref b), some (.ref (ad G 0)), some (.ref (ad G 71)), some (.int z)] [] M := by
  refine fr_aload_n X dL_law_348 rfl rfl ?_
  refine fr_aload_n X dL_law_349 rfl rfl ?_
  refine fr_iload_n X dL_law_350 rfl rfl ?_
  refine fr_iconst (v := 1) X dL_law_351 (by decide) ?_
  refine fr_iadd X dL_law_352 ?_
  refine fr_sld X hX h1 dL_law_353 ?_
  refine fr_aload_n X dL_law_354 rfl rfl ?_
  refine fr_iload_n X dL_law_355 rfl rfl ?_
  refine fr_iconst (v := 2) X dL_law_356 (by decide) ?_
  refine fr_iadd X dL_law_357 ?_
  refine fr_sld X hX h2 dL_law_358 ?_
  refine fr_aload_n X dL_law_359 rfl rfl ?_
  refine fr_iload_n X dL_law_360 rfl rfl ?_
  refine fr_iconst (v := 3) X dL_law_361 (by decide) ?_
  refine fr_iadd X dL_law_362 ?_
  refine fr_sld X hX h3 dL_law_363 ?_
  refine fr_aload_n X dL_law_364 rfl rfl ?_
  refine fr_iload_n X dL_law_365 rfl rfl ?_
  refine fr_iconst (v := 4) X dL_law_366 (by decide) ?_
  refine fr_iadd X dL_law_367 ?_
  refine fr_sld X hX h4 dL_law_368 ?_
  refine fr_aload_n X dL_law_369 rfl rfl ?_
  refine fr_iload_n X dL_law_370 rfl rfl ?_
  refine fr_iconst (v := 5) X dL_law_371 (by decide) ?_
  refine fr_iadd X dL_law_372 ?_
  refine fr_sld X hX h5 dL_law_373 ?_
  refine fr_callV (a := 0) (d := 5) (As := [.int (xs (z + 1).toNatClampNeg), .int (xs (z + 2).toNatClampNeg), .int (xs (z + 3).toNatClampNeg), .int (xs (z + 4).toNatClampNeg), .int (xs (z + 5).toNatClampNeg)]) (st := []) X dL_law_374 rfl cm_X10_copy m_2_137 ⟨Nat.le_of_ble_eq_true rfl, Nat.le_of_ble_eq_true rfl, Nat.le_of_ble_eq_true rfl, Nat.le_of_ble_eq_true rfl⟩ rfl (Nat.le_of_ble_eq_true rfl) rfl hG (law_copy hB ((xs (z + 1).toNatClampNeg)) ((xs (z + 2).toNatClampNeg)) ((xs (z + 3).toNatClampNeg)) ((xs (z + 4).toNatClampNeg)) ((xs (z + 5).toNatClampNeg))) (fun v M1 h => ?_)
  obtain ⟨r1, rfl, h⟩ := h
  show Fr p l e room_1 s m #[Value.ref b] below meth c G 600000 7302249 Qf 4 377 [some (.ref b), some (.ref (ad G 0)), some (.ref (ad G 71)), some (.int z)] [.int r1] M1
  refine fr_aload_n X dL_law_377 rfl rfl ?_
  refine fr_aload_n X dL_law_378 rfl rfl ?_
  refine fr_iload_n X dL_law_379 rfl rfl ?_
  refine fr_iconst (v := 1) X dL_law_380 (by decide) ?_
  refine fr_iadd X dL_law_381 ?_
  refine fr_sld X hX h1 dL_law_382 ?_
  refine fr_aload_n X dL_law_383 rfl rfl ?_
  refine fr_iload_n X dL_law_384 rfl rfl ?_
  refine fr_iconst (v := 2) X dL_law_385 (by decide) ?_
  refine fr_iadd X dL_law_386 ?_
  refine fr_sld X hX h2 dL_law_387 ?_
  refine fr_aload_n X dL_law_388 rfl rfl ?_
  refine fr_iload_n X dL_law_389 rfl rfl ?_
  refine fr_iconst (v := 3) X dL_law_390 (by decide) ?_
  refine fr_iadd X dL_law_391 ?_
  refine fr_sld X hX h3 dL_law_392 ?_
  refine fr_aload_n X dL_law_393 rfl rfl ?_
  refine fr_iload_n X dL_law_394 rfl rfl ?_
  refine fr_iconst (v := 4) X dL_law_395 (by decide) ?_
  refine fr_iadd X dL_law_396 ?_
  refine fr_sld X hX h4 dL_law_397 ?_
  refine fr_aload_n X dL_law_398 rfl rfl ?_
  refine fr_iload_n X dL_law_399 rfl rfl ?_
  refine fr_iconst (v := 5) X dL_law_400 (by decide) ?_
  refine fr_iadd X dL_law_401 ?_
  refine fr_sld X hX h5 dL_law_402 ?_
  refine fr_callV (a := 71) (d := 3) (As := [.int (xs (z + 1).toNatClampNeg), .int (xs (z + 2).toNatClampNeg), .int (xs (z + 3).toNatClampNeg), .int (xs (z + 4).toNatClampNeg), .int (xs (z + 5).toNatClampNeg)]) (st := [.int r1]) X dL_law_403 rfl cm_X11_copy m_5_59 ⟨Nat.le_of_ble_eq_true rfl, Nat.le_of_ble_eq_true rfl, Nat.le_of_ble_eq_true rfl, Nat.le_of_ble_eq_true rfl⟩ rfl (Nat.le_of_ble_eq_true rfl) rfl hG h (fun v M2 h => ?_)
  obtain ⟨r2, rfl, h0, h⟩ := h
  show Fr p l e room_1 s m #[Value.ref b] below meth c G 600000 7302249 Qf 4 406 [some (.ref b), some (.ref (ad G 0)), some (.ref (ad G 71)), some (.int z)] [.int r2, .int r1] M2
  exact fr_icmp_eq (tgt := 1355) X dL_law_406 (by decide) (fun _ => next M2 h) (fun q => absurd h0 q)
set_option maxRecDepth 20000 in
theorem lc_5 (X : CxB p s m #[Value.ref b] c G code 4 R_law) (hX : va_X b Ln xs s s.heap ∧ b < s.heap.size ∧ ¬ AG G b) (hG : gl G = l) (h1 : vp_in (z + 1) Ln) (h2 : vp_in (z + 2) Ln) (h3 : vp_in (z + 3) Ln) (h4 : vp_in (z + 4) Ln) (h5 : vp_in (z + 5) Ln) (hB : Bo M) (next : ∀ M, Bo M → Fr p l e room_1 s m #[Value.ref b] below meth c G 600000 7302249 Qf 4 1355 [some (.ref b), some (.ref (ad G 0)), some (.ref (ad G 71)), some (.int z)] [] M) : Fr p l e room_1 s m #[Value.ref b] below meth c G 600000 7302249 Qf 4 411 [some (.ref b), some (.ref (ad G 0)), some (.ref (ad G 71)), some (.int z)] [] M := by
  refine fr_aload_n X dL_law_411 rfl rfl ?_
  refine fr_aload_n X dL_law_412 rfl rfl ?_
  refine fr_iload_n X dL_law_413 rfl rfl ?_
  refine fr_iconst (v := 1) X dL_law_414 (by decide) ?_
  refine fr_iadd X dL_law_415 ?_
  refine fr_sld X hX h1 dL_law_416 ?_
  refine fr_callV (a := 0) (d := 6) (As := [.int (xs (z + 1).toNatClampNeg)]) (st := []) X dL_law_417 rfl cm_X10_mean m_2_153 ⟨Nat.le_of_ble_eq_true rfl, Nat.le_of_ble_eq_true rfl, Nat.le_of_ble_eq_true rfl, Nat.le_of_ble_eq_true rfl⟩ rfl (Nat.le_of_ble_eq_true rfl) rfl hG (law_mean hB ((xs (z + 1).toNatClampNeg))) (fun v M1 h => ?_)
  obtain ⟨r1, rfl, h⟩ := h
  show Fr p l e room_1 s m #[Value.ref b] below meth c G 600000 7302249 Qf 4 420 [some (.ref b), some (.ref (ad G 0)), some (.ref (ad G 71)), some (.int z)] [.int r1] M1
  refine fr_aload_n X dL_law_420 rfl rfl ?_
  refine fr_aload_n X dL_law_421 rfl rfl ?_
  refine fr_iload_n X dL_law_422 rfl rfl ?_
  refine fr_iconst (v := 1) X dL_law_423 (by decide) ?_
  refine fr_iadd X dL_law_424 ?_
  refine fr_sld X hX h1 dL_law_425 ?_
  refine fr_callV (a := 71) (d := 3) (As := [.int (xs (z + 1).toNatClampNeg)]) (st := [.int r1]) X dL_law_426 rfl cm_X11_mean m_5_63 ⟨Nat.le_of_ble_eq_true rfl, Nat.le_of_ble_eq_true rfl, Nat.le_of_ble_eq_true rfl, Nat.le_of_ble_eq_true rfl⟩ rfl (Nat.le_of_ble_eq_true rfl) rfl hG h (fun v M2 h => ?_)
  obtain ⟨r2, rfl, h0, h⟩ := h
  show Fr p l e room_1 s m #[Value.ref b] below meth c G 600000 7302249 Qf 4 429 [some (.ref b), some (.ref (ad G 0)), some (.ref (ad G 71)), some (.int z)] [.int r2, .int r1] M2
  exact fr_icmp_eq (tgt := 1355) X dL_law_429 (by decide) (fun _ => next M2 h) (fun q => absurd h0 q)
set_option maxRecDepth 20000 in
theorem lc_6 (X : CxB p s m #[Value.ref b] c G code 4 R_law) (hX : va_X b Ln xs s s.heap ∧ b < s.heap.size ∧ ¬ AG G b) (hG : gl G = l) (h1 : vp_in (z + 1) Ln) (h2 : vp_in (z + 2) Ln) (h3 : vp_in (z + 3) Ln) (h4 : vp_in (z + 4) Ln) (h5 : vp_in (z + 5) Ln) (hB : Bo M) (next : ∀ M, Bo M → Fr p l e room_1 s m #[Value.ref b] below meth c G 600000 7302249 Qf 4 1355 [some (.ref b), some (.ref (ad G 0)), some (.ref (ad G 71)), some (.int z)] [] M) : Fr p l e room_1 s m #[Value.ref b] below meth c G 600000 7302249 Qf 4 434 [some (.ref b), some (.ref (ad G 0)), some (.ref (ad G 71)), some (.int z)] [] M := by
  refine fr_aload_n X dL_law_434 rfl rfl ?_
  refine fr_aload_n X dL_law_435 rfl rfl ?_
  refine fr_iload_n X dL_law_436 rfl rfl ?_
  refine fr_iconst (v := 1) X dL_law_437 (by decide) ?_
  refine fr_iadd X dL_law_438 ?_
  refine fr_sld X hX h1 dL_law_439 ?_
  refine fr_aload_n X dL_law_440 rfl rfl ?_
  refine fr_iload_n X dL_law_441 rfl rfl ?_
  refine fr_iconst (v := 2) X dL_law_442 (by decide) ?_
  refine fr_iadd X dL_law_443 ?_
  refine fr_sld X hX h2 dL_law_444 ?_
  refine fr_callV (a := 0) (d := 3) (As := [.int (xs (z + 1).toNatClampNeg), .int (xs (z + 2).toNatClampNeg)]) (st := []) X dL_law_445 rfl cm_X10_text m_2_163 ⟨Nat.le_of_ble_eq_true rfl, Nat.le_of_ble_eq_true rfl, Nat.le_of_ble_eq_true rfl, Nat.le_of_ble_eq_true rfl⟩ rfl (Nat.le_of_ble_eq_true rfl) rfl hG (law_text hB ((xs (z + 1).toNatClampNeg)) ((xs (z + 2).toNatClampNeg))) (fun v M1 h => ?_)
  obtain ⟨r1, rfl, h⟩ := h
  show Fr p l e room_1 s m #[Value.ref b] below meth c G 600000 7302249 Qf 4 448 [some (.ref b), some (.ref (ad G 0)), some (.ref (ad G 71)), some (.int z)] [.int r1] M1
  refine fr_aload_n X dL_law_448 rfl rfl ?_
  refine fr_aload_n X dL_law_449 rfl rfl ?_
  refine fr_iload_n X dL_law_450 rfl rfl ?_
  refine fr_iconst (v := 1) X dL_law_451 (by decide) ?_
  refine fr_iadd X dL_law_452 ?_
  refine fr_sld X hX h1 dL_law_453 ?_
  refine fr_aload_n X dL_law_454 rfl rfl ?_
  refine fr_iload_n X dL_law_455 rfl rfl ?_
  refine fr_iconst (v := 2) X dL_law_456 (by decide) ?_
  refine fr_iadd X dL_law_457 ?_
  refine fr_sld X hX h2 dL_law_458 ?_
  refine fr_callV (a := 71) (d := 3) (As := [.int (xs (z + 1).toNatClampNeg), .int (xs (z + 2).toNatClampNeg)]) (st := [.int r1]) X dL_law_459 rfl cm_X11_text m_5_67 ⟨Nat.le_of_ble_eq_true rfl, Nat.le_of_ble_eq_true rfl, Nat.le_of_ble_eq_true rfl, Nat.le_of_ble_eq_true rfl⟩ rfl (Nat.le_of_ble_eq_true rfl) rfl hG h (fun v M2 h => ?_)
  obtain ⟨r2, rfl, h0, h⟩ := h
  show Fr p l e room_1 s m #[Value.ref b] below meth c G 600000 7302249 Qf 4 462 [some (.ref b), some (.ref (ad G 0)), some (.ref (ad G 71)), some (.int z)] [.int r2, .int r1] M2
  exact fr_icmp_eq (tgt := 1355) X dL_law_462 (by decide) (fun _ => next M2 h) (fun q => absurd h0 q)
set_option maxRecDepth 20000 in
theorem lc_7 (X : CxB p s m #[Value.ref b] c G code 4 R_law) (hX : va_X b Ln xs s s.heap ∧ b < s.heap.size ∧ ¬ AG G b) (hG : gl G = l) (h1 : vp_in (z + 1) Ln) (h2 : vp_in (z + 2) Ln) (h3 : vp_in (z + 3) Ln) (h4 : vp_in (z + 4) Ln) (h5 : vp_in (z + 5) Ln) (hB : Bo M) (next : ∀ M, Bo M → Fr p l e room_1 s m #[Value.ref b] below meth c G 600000 7302249 Qf 4 1355 [some (.ref b), some (.ref (ad G 0)), some (.ref (ad G 71)), some (.int z)] [] M) : Fr p l e room_1 s m #[Value.ref b] below meth c G 600000 7302249 Qf 4 467 [some (.ref b), some (.ref (ad G 0)), some (.ref (ad G 71)), some (.int z)] [] M := by
  refine fr_aload_n X dL_law_467 rfl rfl ?_
  refine fr_aload_n X dL_law_468 rfl rfl ?_
  refine fr_iload_n X dL_law_469 rfl rfl ?_
  refine fr_iconst (v := 1) X dL_law_470 (by decide) ?_
  refine fr_iadd X dL_law_471 ?_
  refine fr_sld X hX h1 dL_law_472 ?_
  refine fr_aload_n X dL_law_473 rfl rfl ?_
  refine fr_iload_n X dL_law_474 rfl rfl ?_
  refine fr_iconst (v := 2) X dL_law_475 (by decide) ?_
  refine fr_iadd X dL_law_476 ?_
  refine fr_sld X hX h2 dL_law_477 ?_
  refine fr_aload_n X dL_law_478 rfl rfl ?_
  refine fr_iload_n X dL_law_479 rfl rfl ?_
  refine fr_iconst (v := 3) X dL_law_480 (by decide) ?_
  refine fr_iadd X dL_law_481 ?_
  refine fr_sld X hX h3 dL_law_482 ?_
  refine fr_callV (a := 0) (d := 5) (As := [.int (xs (z + 1).toNatClampNeg), .int (xs (z + 2).toNatClampNeg), .int (xs (z + 3).toNatClampNeg)]) (st := []) X dL_law_483 rfl cm_X10_put m_2_167 ⟨Nat.le_of_ble_eq_true rfl, Nat.le_of_ble_eq_true rfl, Nat.le_of_ble_eq_true rfl, Nat.le_of_ble_eq_true rfl⟩ rfl (Nat.le_of_ble_eq_true rfl) rfl hG (law_put hB ((xs (z + 1).toNatClampNeg)) ((xs (z + 2).toNatClampNeg)) ((xs (z + 3).toNatClampNeg))) (fun v M1 h => ?_)
  obtain ⟨r1, rfl, h⟩ := h
  show Fr p l e room_1 s m #[Value.ref b] below meth c G 600000 7302249 Qf 4 486 [some (.ref b), some (.ref (ad G 0)), some (.ref (ad G 71)), some (.int z)] [.int r1] M1
  refine fr_aload_n X dL_law_486 rfl rfl ?_
  refine fr_aload_n X dL_law_487 rfl rfl ?_
  refine fr_iload_n X dL_law_488 rfl rfl ?_
  refine fr_iconst (v := 1) X dL_law_489 (by decide) ?_
  refine fr_iadd X dL_law_490 ?_
  refine fr_sld X hX h1 dL_law_491 ?_
  refine fr_aload_n X dL_law_492 rfl rfl ?_
  refine fr_iload_n X dL_law_493 rfl rfl ?_
  refine fr_iconst (v := 2) X dL_law_494 (by decide) ?_
  refine fr_iadd X dL_law_495 ?_
  refine fr_sld X hX h2 dL_law_496 ?_
  refine fr_aload_n X dL_law_497 rfl rfl ?_
  refine fr_iload_n X dL_law_498 rfl rfl ?_
  refine fr_iconst (v := 3) X dL_law_499 (by decide) ?_
  refine fr_iadd X dL_law_500 ?_
  refine fr_sld X hX h3 dL_law_501 ?_
  refine fr_callV (a := 71) (d := 3) (As := [.int (xs (z + 1).toNatClampNeg), .int (xs (z + 2).toNatClampNeg), .int (xs (z + 3).toNatClampNeg)]) (st := [.int r1]) X dL_law_502 rfl cm_X11_put m_5_74 ⟨Nat.le_of_ble_eq_true rfl, Nat.le_of_ble_eq_true rfl, Nat.le_of_ble_eq_true rfl, Nat.le_of_ble_eq_true rfl⟩ rfl (Nat.le_of_ble_eq_true rfl) rfl hG h (fun v M2 h => ?_)
  obtain ⟨r2, rfl, h0, h⟩ := h
  show Fr p l e room_1 s m #[Value.ref b] below meth c G 600000 7302249 Qf 4 505 [some (.ref b), some (.ref (ad G 0)), some (.ref (ad G 71)), some (.int z)] [.int r2, .int r1] M2
  exact fr_icmp_eq (tgt := 1355) X dL_law_505 (by decide) (fun _ => next M2 h) (fun q => absurd h0 q)
set_option maxRecDepth 20000 in
theorem lc_8 (X : CxB p s m #[Value.ref b] c G code 4 R_law) (hX : va_X b Ln xs s s.heap ∧ b < s.heap.size ∧ ¬ AG G b) (hG : gl G = l) (h1 : vp_in (z + 1) Ln) (h2 : vp_in (z + 2) Ln) (h3 : vp_in (z + 3) Ln) (h4 : vp_in (z + 4) Ln) (h5 : vp_in (z + 5) Ln) (hB : Bo M) (next : ∀ M, Bo M → Fr p l e room_1 s m #[Value.ref b] below meth c G 600000 7302249 Qf 4 1355 [some (.ref b), some (.ref (ad G 0)), some (.ref (ad G 71)), some (.int z)] [] M) : Fr p l e room_1 s m #[Value.ref b] below meth c G 600000 7302249 Qf 4 510 [some (.ref b), some (.ref (ad G 0)), some (.ref (ad G 71)), some (.int z)] [] M := by
  refine fr_aload_n X dL_law_510 rfl rfl ?_
  refine fr_aload_n X dL_law_511 rfl rfl ?_
  refine fr_iload_n X dL_law_512 rfl rfl ?_
  refine fr_iconst (v := 1) X dL_law_513 (by decide) ?_
  refine fr_iadd X dL_law_514 ?_
  refine fr_sld X hX h1 dL_law_515 ?_
  refine fr_callV (a := 0) (d := 8) (As := [.int (xs (z + 1).toNatClampNeg)]) (st := []) X dL_law_516 rfl cm_X10_fault m_2_175 ⟨Nat.le_of_ble_eq_true rfl, Nat.le_of_ble_eq_true rfl, Nat.le_of_ble_eq_true rfl, Nat.le_of_ble_eq_true rfl⟩ rfl (Nat.le_of_ble_eq_true rfl) rfl hG (law_fault hB ((xs (z + 1).toNatClampNeg))) (fun v M1 h => ?_)
  obtain ⟨r1, rfl, h⟩ := h
  show Fr p l e room_1 s m #[Value.ref b] below meth c G 600000 7302249 Qf 4 519 [some (.ref b), some (.ref (ad G 0)), some (.ref (ad G 71)), some (.int z)] [.int r1] M1
  refine fr_aload_n X dL_law_519 rfl rfl ?_
  refine fr_aload_n X dL_law_520 rfl rfl ?_
  refine fr_iload_n X dL_law_521 rfl rfl ?_
  refine fr_iconst (v := 1) X dL_law_522 (by decide) ?_
  refine fr_iadd X dL_law_523 ?_
  refine fr_sld X hX h1 dL_law_524 ?_
  refine fr_callV (a := 71) (d := 5) (As := [.int (xs (z + 1).toNatClampNeg)]) (st := [.int r1]) X dL_law_525 rfl cm_X11_fault m_5_78 ⟨Nat.le_of_ble_eq_true rfl, Nat.le_of_ble_eq_true rfl, Nat.le_of_ble_eq_true rfl, Nat.le_of_ble_eq_true rfl⟩ rfl (Nat.le_of_ble_eq_true rfl) rfl hG h (fun v M2 h => ?_)
  obtain ⟨r2, rfl, h0, h⟩ := h
  show Fr p l e room_1 s m #[Value.ref b] below meth c G 600000 7302249 Qf 4 528 [some (.ref b), some (.ref (ad G 0)), some (.ref (ad G 71)), some (.int z)] [.int r2, .int r1] M2
  exact fr_icmp_eq (tgt := 1355) X dL_law_528 (by decide) (fun _ => next M2 h) (fun q => absurd h0 q)
set_option maxRecDepth 20000 in
theorem lc_9 (X : CxB p s m #[Value.ref b] c G code 4 R_law) (hX : va_X b Ln xs s s.heap ∧ b < s.heap.size ∧ ¬ AG G b) (hG : gl G = l) (h1 : vp_in (z + 1) Ln) (h2 : vp_in (z + 2) Ln) (h3 : vp_in (z + 3) Ln) (h4 : vp_in (z + 4) Ln) (h5 : vp_in (z + 5) Ln) (hB : Bo M) (next : ∀ M, Bo M → Fr p l e room_1 s m #[Value.ref b] below meth c G 600000 7302249 Qf 4 1355 [some (.ref b), some (.ref (ad G 0)), some (.ref (ad G 71)), some (.int z)] [] M) : Fr p l e room_1 s m #[Value.ref b] below meth c G 600000 7302249 Qf 4 533 [some (.ref b), some (.ref (ad G 0)), some (.ref (ad G 71)), some (.int z)] [] M := by
  refine fr_aload_n X dL_law_533 rfl rfl ?_
  refine fr_aload_n X dL_law_534 rfl rfl ?_
  refine fr_iload_n X dL_law_535 rfl rfl ?_
  refine fr_iconst (v := 1) X dL_law_536 (by decide) ?_
  refine fr_iadd X dL_law_537 ?_
  refine fr_sld X hX h1 dL_law_538 ?_
  refine fr_callV (a := 0) (d := 8) (As := [.int (xs (z + 1).toNatClampNeg)]) (st := []) X dL_law_539 rfl cm_X10_drawer m_2_199 ⟨Nat.le_of_ble_eq_true rfl, Nat.le_of_ble_eq_true rfl, Nat.le_of_ble_eq_true rfl, Nat.le_of_ble_eq_true rfl⟩ rfl (Nat.le_of_ble_eq_true rfl) rfl hG (law_drawer hB ((xs (z + 1).toNatClampNeg))) (fun v M1 h => ?_)
  obtain ⟨r1, rfl, h⟩ := h
  show Fr p l e room_1 s m #[Value.ref b] below meth c G 600000 7302249 Qf 4 542 [some (.ref b), some (.ref (ad G 0)), some (.ref (ad G 71)), some (.int z)] [.int r1] M1
  refine fr_aload_n X dL_law_542 rfl rfl ?_
  refine fr_aload_n X dL_law_543 rfl rfl ?_
  refine fr_iload_n X dL_law_544 rfl rfl ?_
  refine fr_iconst (v := 1) X dL_law_545 (by decide) ?_
  refine fr_iadd X dL_law_546 ?_
  refine fr_sld X hX h1 dL_law_547 ?_
  refine fr_callV (a := 71) (d := 5) (As := [.int (xs (z + 1).toNatClampNeg)]) (st := [.int r1]) X dL_law_548 rfl cm_X11_drawer m_5_105 ⟨Nat.le_of_ble_eq_true rfl, Nat.le_of_ble_eq_true rfl, Nat.le_of_ble_eq_true rfl, Nat.le_of_ble_eq_true rfl⟩ rfl (Nat.le_of_ble_eq_true rfl) rfl hG h (fun v M2 h => ?_)
  obtain ⟨r2, rfl, h0, h⟩ := h
  show Fr p l e room_1 s m #[Value.ref b] below meth c G 600000 7302249 Qf 4 551 [some (.ref b), some (.ref (ad G 0)), some (.ref (ad G 71)), some (.int z)] [.int r2, .int r1] M2
  exact fr_icmp_eq (tgt := 1355) X dL_law_551 (by decide) (fun _ => next M2 h) (fun q => absurd h0 q)
set_option maxRecDepth 20000 in
theorem lc_10 (X : CxB p s m #[Value.ref b] c G code 4 R_law) (hX : va_X b Ln xs s s.heap ∧ b < s.heap.size ∧ ¬ AG G b) (hG : gl G = l) (h1 : vp_in (z + 1) Ln) (h2 : vp_in (z + 2) Ln) (h3 : vp_in (z + 3) Ln) (h4 : vp_in (z + 4) Ln) (h5 : vp_in (z + 5) Ln) (hB : Bo M) (next : ∀ M, Bo M → Fr p l e room_1 s m #[Value.ref b] below meth c G 600000 7302249 Qf 4 1355 [some (.ref b), some (.ref (ad G 0)), some (.ref (ad G 71)), some (.int z)] [] M) : Fr p l e room_1 s m #[Value.ref b] below meth c G 600000 7302249 Qf 4 556 [some (.ref b), some (.ref (ad G 0)), some (.ref (ad G 71)), some (.int z)] [] M := by
  refine fr_aload_n X dL_law_556 rfl rfl ?_
  refine fr_aload_n X dL_law_557 rfl rfl ?_
  refine fr_iload_n X dL_law_558 rfl rfl ?_
  refine fr_iconst (v := 1) X dL_law_559 (by decide) ?_
  refine fr_iadd X dL_law_560 ?_
  refine fr_sld X hX h1 dL_law_561 ?_
  refine fr_aload_n X dL_law_562 rfl rfl ?_
  refine fr_iload_n X dL_law_563 rfl rfl ?_
  refine fr_iconst (v := 2) X dL_law_564 (by decide) ?_
  refine fr_iadd X dL_law_565 ?_
  refine fr_sld X hX h2 dL_law_566 ?_
  refine fr_callV (a := 0) (d := 4) (As := [.int (xs (z + 1).toNatClampNeg), .int (xs (z + 2).toNatClampNeg)]) (st := []) X dL_law_567 rfl cm_X10_glove m_2_219 ⟨Nat.le_of_ble_eq_true rfl, Nat.le_of_ble_eq_true rfl, Nat.le_of_ble_eq_true rfl, Nat.le_of_ble_eq_true rfl⟩ rfl (Nat.le_of_ble_eq_true rfl) rfl hG (law_glove hB ((xs (z + 1).toNatClampNeg)) ((xs (z + 2).toNatClampNeg))) (fun v M1 h => ?_)
  obtain ⟨r1, rfl, h⟩ := h
  show Fr p l e room_1 s m #[Value.ref b] below meth c G 600000 7302249 Qf 4 570 [some (.ref b), some (.ref (ad G 0)), some (.ref (ad G 71)), some (.int z)] [.int r1] M1
  refine fr_aload_n X dL_law_570 rfl rfl ?_
  refine fr_aload_n X dL_law_571 rfl rfl ?_
  refine fr_iload_n X dL_law_572 rfl rfl ?_
  refine fr_iconst (v := 1) X dL_law_573 (by decide) ?_
  refine fr_iadd X dL_law_574 ?_
  refine fr_sld X hX h1 dL_law_575 ?_
  refine fr_aload_n X dL_law_576 rfl rfl ?_
  refine fr_iload_n X dL_law_577 rfl rfl ?_
  refine fr_iconst (v := 2) X dL_law_578 (by decide) ?_
  refine fr_iadd X dL_law_579 ?_
  refine fr_sld X hX h2 dL_law_580 ?_
  refine fr_callV (a := 71) (d := 3) (As := [.int (xs (z + 1).toNatClampNeg), .int (xs (z + 2).toNatClampNeg)]) (st := [.int r1]) X dL_law_581 rfl cm_X11_glove m_5_117 ⟨Nat.le_of_ble_eq_true rfl, Nat.le_of_ble_eq_true rfl, Nat.le_of_ble_eq_true rfl, Nat.le_of_ble_eq_true rfl⟩ rfl (Nat.le_of_ble_eq_true rfl) rfl hG h (fun v M2 h => ?_)
  obtain ⟨r2, rfl, h0, h⟩ := h
  show Fr p l e room_1 s m #[Value.ref b] below meth c G 600000 7302249 Qf 4 584 [some (.ref b), some (.ref (ad G 0)), some (.ref (ad G 71)), some (.int z)] [.int r2, .int r1] M2
  exact fr_icmp_eq (tgt := 1355) X dL_law_584 (by decide) (fun _ => next M2 h) (fun q => absurd h0 q)
set_option maxRecDepth 20000 in
theorem lc_11 (X : CxB p s m #[Value.ref b] c G code 4 R_law) (hX : va_X b Ln xs s s.heap ∧ b < s.heap.size ∧ ¬ AG G b) (hG : gl G = l) (h1 : vp_in (z + 1) Ln) (h2 : vp_in (z + 2) Ln) (h3 : vp_in (z + 3) Ln) (h4 : vp_in (z + 4) Ln) (h5 : vp_in (z + 5) Ln) (hB : Bo M) (next : ∀ M, Bo M → Fr p l e room_1 s m #[Value.ref b] below meth c G 600000 7302249 Qf 4 1355 [some (.ref b), some (.ref (ad G 0)), some (.ref (ad G 71)), some (.int z)] [] M) : Fr p l e room_1 s m #[Value.ref b] below meth c G 600000 7302249 Qf 4 589 [some (.ref b), some (.ref (ad G 0)), some (.ref (ad G 71)), some (.int z)] [] M := by
  refine fr_aload_n X dL_law_589 rfl rfl ?_
  refine fr_aload_n X dL_law_590 rfl rfl ?_
  refine fr_iload_n X dL_law_591 rfl rfl ?_
  refine fr_iconst (v := 1) X dL_law_592 (by decide) ?_
  refine fr_iadd X dL_law_593 ?_
  refine fr_sld X hX h1 dL_law_594 ?_
  refine fr_aload_n X dL_law_595 rfl rfl ?_
  refine fr_iload_n X dL_law_596 rfl rfl ?_
  refine fr_iconst (v := 2) X dL_law_597 (by decide) ?_
  refine fr_iadd X dL_law_598 ?_
  refine fr_sld X hX h2 dL_law_599 ?_
  refine fr_callV (a := 0) (d := 6) (As := [.int (xs (z + 1).toNatClampNeg), .int (xs (z + 2).toNatClampNeg)]) (st := []) X dL_law_600 rfl cm_X10_mark m_2_237 ⟨Nat.le_of_ble_eq_true rfl, Nat.le_of_ble_eq_true rfl, Nat.le_of_ble_eq_true rfl, Nat.le_of_ble_eq_true rfl⟩ rfl (Nat.le_of_ble_eq_true rfl) rfl hG (law_mark hB ((xs (z + 1).toNatClampNeg)) ((xs (z + 2).toNatClampNeg))) (fun v M1 h => ?_)
  obtain ⟨r1, rfl, h⟩ := h
  show Fr p l e room_1 s m #[Value.ref b] below meth c G 600000 7302249 Qf 4 603 [some (.ref b), some (.ref (ad G 0)), some (.ref (ad G 71)), some (.int z)] [.int r1] M1
  refine fr_aload_n X dL_law_603 rfl rfl ?_
  refine fr_aload_n X dL_law_604 rfl rfl ?_
  refine fr_iload_n X dL_law_605 rfl rfl ?_
  refine fr_iconst (v := 1) X dL_law_606 (by decide) ?_
  refine fr_iadd X dL_law_607 ?_
  refine fr_sld X hX h1 dL_law_608 ?_
  refine fr_aload_n X dL_law_609 rfl rfl ?_
  refine fr_iload_n X dL_law_610 rfl rfl ?_
  refine fr_iconst (v := 2) X dL_law_611 (by decide) ?_
  refine fr_iadd X dL_law_612 ?_
  refine fr_sld X hX h2 dL_law_613 ?_
  refine fr_callV (a := 71) (d := 5) (As := [.int (xs (z + 1).toNatClampNeg), .int (xs (z + 2).toNatClampNeg)]) (st := [.int r1]) X dL_law_614 rfl cm_X11_mark m_5_133 ⟨Nat.le_of_ble_eq_true rfl, Nat.le_of_ble_eq_true rfl, Nat.le_of_ble_eq_true rfl, Nat.le_of_ble_eq_true rfl⟩ rfl (Nat.le_of_ble_eq_true rfl) rfl hG h (fun v M2 h => ?_)
  obtain ⟨r2, rfl, h0, h⟩ := h
  show Fr p l e room_1 s m #[Value.ref b] below meth c G 600000 7302249 Qf 4 617 [some (.ref b), some (.ref (ad G 0)), some (.ref (ad G 71)), some (.int z)] [.int r2, .int r1] M2
  exact fr_icmp_eq (tgt := 1355) X dL_law_617 (by decide) (fun _ => next M2 h) (fun q => absurd h0 q)
set_option maxRecDepth 20000 in
theorem lc_12 (X : CxB p s m #[Value.ref b] c G code 4 R_law) (hX : va_X b Ln xs s s.heap ∧ b < s.heap.size ∧ ¬ AG G b) (hG : gl G = l) (h1 : vp_in (z + 1) Ln) (h2 : vp_in (z + 2) Ln) (h3 : vp_in (z + 3) Ln) (h4 : vp_in (z + 4) Ln) (h5 : vp_in (z + 5) Ln) (hB : Bo M) (next : ∀ M, Bo M → Fr p l e room_1 s m #[Value.ref b] below meth c G 600000 7302249 Qf 4 1355 [some (.ref b), some (.ref (ad G 0)), some (.ref (ad G 71)), some (.int z)] [] M) : Fr p l e room_1 s m #[Value.ref b] below meth c G 600000 7302249 Qf 4 622 [some (.ref b), some (.ref (ad G 0)), some (.ref (ad G 71)), some (.int z)] [] M := by
  refine fr_aload_n X dL_law_622 rfl rfl ?_
  refine fr_aload_n X dL_law_623 rfl rfl ?_
  refine fr_iload_n X dL_law_624 rfl rfl ?_
  refine fr_iconst (v := 1) X dL_law_625 (by decide) ?_
  refine fr_iadd X dL_law_626 ?_
  refine fr_sld X hX h1 dL_law_627 ?_
  refine fr_aload_n X dL_law_628 rfl rfl ?_
  refine fr_iload_n X dL_law_629 rfl rfl ?_
  refine fr_iconst (v := 2) X dL_law_630 (by decide) ?_
  refine fr_iadd X dL_law_631 ?_
  refine fr_sld X hX h2 dL_law_632 ?_
  refine fr_callV (a := 0) (d := 5) (As := [.int (xs (z + 1).toNatClampNeg), .int (xs (z + 2).toNatClampNeg)]) (st := []) X dL_law_633 rfl cm_X10_pair m_3_46 ⟨Nat.le_of_ble_eq_true rfl, Nat.le_of_ble_eq_true rfl, Nat.le_of_ble_eq_true rfl, Nat.le_of_ble_eq_true rfl⟩ rfl (Nat.le_of_ble_eq_true rfl) rfl hG (law_pair hB ((xs (z + 1).toNatClampNeg)) ((xs (z + 2).toNatClampNeg))) (fun v M1 h => ?_)
  obtain ⟨r1, rfl, h⟩ := h
  show Fr p l e room_1 s m #[Value.ref b] below meth c G 600000 7302249 Qf 4 636 [some (.ref b), some (.ref (ad G 0)), some (.ref (ad G 71)), some (.int z)] [.int r1] M1
  refine fr_aload_n X dL_law_636 rfl rfl ?_
  refine fr_aload_n X dL_law_637 rfl rfl ?_
  refine fr_iload_n X dL_law_638 rfl rfl ?_
  refine fr_iconst (v := 1) X dL_law_639 (by decide) ?_
  refine fr_iadd X dL_law_640 ?_
  refine fr_sld X hX h1 dL_law_641 ?_
  refine fr_aload_n X dL_law_642 rfl rfl ?_
  refine fr_iload_n X dL_law_643 rfl rfl ?_
  refine fr_iconst (v := 2) X dL_law_644 (by decide) ?_
  refine fr_iadd X dL_law_645 ?_
  refine fr_sld X hX h2 dL_law_646 ?_
  refine fr_callV (a := 71) (d := 5) (As := [.int (xs (z + 1).toNatClampNeg), .int (xs (z + 2).toNatClampNeg)]) (st := [.int r1]) X dL_law_647 rfl cm_X11_pair m_5_151 ⟨Nat.le_of_ble_eq_true rfl, Nat.le_of_ble_eq_true rfl, Nat.le_of_ble_eq_true rfl, Nat.le_of_ble_eq_true rfl⟩ rfl (Nat.le_of_ble_eq_true rfl) rfl hG h (fun v M2 h => ?_)
  obtain ⟨r2, rfl, h0, h⟩ := h
  show Fr p l e room_1 s m #[Value.ref b] below meth c G 600000 7302249 Qf 4 650 [some (.ref b), some (.ref (ad G 0)), some (.ref (ad G 71)), some (.int z)] [.int r2, .int r1] M2
  exact fr_icmp_eq (tgt := 1355) X dL_law_650 (by decide) (fun _ => next M2 h) (fun q => absurd h0 q)
set_option maxRecDepth 20000 in
theorem lc_13 (X : CxB p s m #[Value.ref b] c G code 4 R_law) (hX : va_X b Ln xs s s.heap ∧ b < s.heap.size ∧ ¬ AG G b) (hG : gl G = l) (h1 : vp_in (z + 1) Ln) (h2 : vp_in (z + 2) Ln) (h3 : vp_in (z + 3) Ln) (h4 : vp_in (z + 4) Ln) (h5 : vp_in (z + 5) Ln) (hB : Bo M) (next : ∀ M, Bo M → Fr p l e room_1 s m #[Value.ref b] below meth c G 600000 7302249 Qf 4 1355 [some (.ref b), some (.ref (ad G 0)), some (.ref (ad G 71)), some (.int z)] [] M) : Fr p l e room_1 s m #[Value.ref b] below meth c G 600000 7302249 Qf 4 655 [some (.ref b), some (.ref (ad G 0)), some (.ref (ad G 71)), some (.int z)] [] M := by
  refine fr_aload_n X dL_law_655 rfl rfl ?_
  refine fr_aload_n X dL_law_656 rfl rfl ?_
  refine fr_iload_n X dL_law_657 rfl rfl ?_
  refine fr_iconst (v := 1) X dL_law_658 (by decide) ?_
  refine fr_iadd X dL_law_659 ?_
  refine fr_sld X hX h1 dL_law_660 ?_
  refine fr_aload_n X dL_law_661 rfl rfl ?_
  refine fr_iload_n X dL_law_662 rfl rfl ?_
  refine fr_iconst (v := 2) X dL_law_663 (by decide) ?_
  refine fr_iadd X dL_law_664 ?_
  refine fr_sld X hX h2 dL_law_665 ?_
  refine fr_callV (a := 0) (d := 5) (As := [.int (xs (z + 1).toNatClampNeg), .int (xs (z + 2).toNatClampNeg)]) (st := []) X dL_law_666 rfl cm_X10_wear m_3_51 ⟨Nat.le_of_ble_eq_true rfl, Nat.le_of_ble_eq_true rfl, Nat.le_of_ble_eq_true rfl, Nat.le_of_ble_eq_true rfl⟩ rfl (Nat.le_of_ble_eq_true rfl) rfl hG (law_wear hB ((xs (z + 1).toNatClampNeg)) ((xs (z + 2).toNatClampNeg))) (fun v M1 h => ?_)
  obtain ⟨r1, rfl, h⟩ := h
  show Fr p l e room_1 s m #[Value.ref b] below meth c G 600000 7302249 Qf 4 669 [some (.ref b), some (.ref (ad G 0)), some (.ref (ad G 71)), some (.int z)] [.int r1] M1
  refine fr_aload_n X dL_law_669 rfl rfl ?_
  refine fr_aload_n X dL_law_670 rfl rfl ?_
  refine fr_iload_n X dL_law_671 rfl rfl ?_
  refine fr_iconst (v := 1) X dL_law_672 (by decide) ?_
  refine fr_iadd X dL_law_673 ?_
  refine fr_sld X hX h1 dL_law_674 ?_
  refine fr_aload_n X dL_law_675 rfl rfl ?_
  refine fr_iload_n X dL_law_676 rfl rfl ?_
  refine fr_iconst (v := 2) X dL_law_677 (by decide) ?_
  refine fr_iadd X dL_law_678 ?_
  refine fr_sld X hX h2 dL_law_679 ?_
  refine fr_callV (a := 71) (d := 5) (As := [.int (xs (z + 1).toNatClampNeg), .int (xs (z + 2).toNatClampNeg)]) (st := [.int r1]) X dL_law_680 rfl cm_X11_wear m_5_159 ⟨Nat.le_of_ble_eq_true rfl, Nat.le_of_ble_eq_true rfl, Nat.le_of_ble_eq_true rfl, Nat.le_of_ble_eq_true rfl⟩ rfl (Nat.le_of_ble_eq_true rfl) rfl hG h (fun v M2 h => ?_)
  obtain ⟨r2, rfl, h0, h⟩ := h
  show Fr p l e room_1 s m #[Value.ref b] below meth c G 600000 7302249 Qf 4 683 [some (.ref b), some (.ref (ad G 0)), some (.ref (ad G 71)), some (.int z)] [.int r2, .int r1] M2
  exact fr_icmp_eq (tgt := 1355) X dL_law_683 (by decide) (fun _ => next M2 h) (fun q => absurd h0 q)
set_option maxRecDepth 20000 in
theorem lc_14 (X : CxB p s m #[Value.ref b] c G code 4 R_law) (hX : va_X b Ln xs s s.heap ∧ b < s.heap.size ∧ ¬ AG G b) (hG : gl G = l) (h1 : vp_in (z + 1) Ln) (h2 : vp_in (z + 2) Ln) (h3 : vp_in (z + 3) Ln) (h4 : vp_in (z + 4) Ln) (h5 : vp_in (z + 5) Ln) (hB : Bo M) (next : ∀ M, Bo M → Fr p l e room_1 s m #[Value.ref b] below meth c G 600000 7302249 Qf 4 1355 [some (.ref b), some (.ref (ad G 0)), some (.ref (ad G 71)), some (.int z)] [] M) : Fr p l e room_1 s m #[Value.ref b] below meth c G 600000 7302249 Qf 4 688 [some (.ref b), some (.ref (ad G 0)), some (.ref (ad G 71)), some (.int z)] [] M := by
  refine fr_aload_n X dL_law_688 rfl rfl ?_
  refine fr_aload_n X dL_law_689 rfl rfl ?_
  refine fr_iload_n X dL_law_690 rfl rfl ?_
  refine fr_iconst (v := 1) X dL_law_691 (by decide) ?_
  refine fr_iadd X dL_law_692 ?_
  refine fr_sld X hX h1 dL_law_693 ?_
  refine fr_callV (a := 0) (d := 4) (As := [.int (xs (z + 1).toNatClampNeg)]) (st := []) X dL_law_694 rfl cm_X10_lose m_3_68 ⟨Nat.le_of_ble_eq_true rfl, Nat.le_of_ble_eq_true rfl, Nat.le_of_ble_eq_true rfl, Nat.le_of_ble_eq_true rfl⟩ rfl (Nat.le_of_ble_eq_true rfl) rfl hG (law_lose hB ((xs (z + 1).toNatClampNeg))) (fun v M1 h => ?_)
  obtain ⟨r1, rfl, h⟩ := h
  show Fr p l e room_1 s m #[Value.ref b] below meth c G 600000 7302249 Qf 4 697 [some (.ref b), some (.ref (ad G 0)), some (.ref (ad G 71)), some (.int z)] [.int r1] M1
  refine fr_aload_n X dL_law_697 rfl rfl ?_
  refine fr_aload_n X dL_law_698 rfl rfl ?_
  refine fr_iload_n X dL_law_699 rfl rfl ?_
  refine fr_iconst (v := 1) X dL_law_700 (by decide) ?_
  refine fr_iadd X dL_law_701 ?_
  refine fr_sld X hX h1 dL_law_702 ?_
  refine fr_callV (a := 71) (d := 3) (As := [.int (xs (z + 1).toNatClampNeg)]) (st := [.int r1]) X dL_law_703 rfl cm_X11_lose m_5_167 ⟨Nat.le_of_ble_eq_true rfl, Nat.le_of_ble_eq_true rfl, Nat.le_of_ble_eq_true rfl, Nat.le_of_ble_eq_true rfl⟩ rfl (Nat.le_of_ble_eq_true rfl) rfl hG h (fun v M2 h => ?_)
  obtain ⟨r2, rfl, h0, h⟩ := h
  show Fr p l e room_1 s m #[Value.ref b] below meth c G 600000 7302249 Qf 4 706 [some (.ref b), some (.ref (ad G 0)), some (.ref (ad G 71)), some (.int z)] [.int r2, .int r1] M2
  exact fr_icmp_eq (tgt := 1355) X dL_law_706 (by decide) (fun _ => next M2 h) (fun q => absurd h0 q)
set_option maxRecDepth 20000 in
theorem lc_15 (X : CxB p s m #[Value.ref b] c G code 4 R_law) (hX : va_X b Ln xs s s.heap ∧ b < s.heap.size ∧ ¬ AG G b) (hG : gl G = l) (h1 : vp_in (z + 1) Ln) (h2 : vp_in (z + 2) Ln) (h3 : vp_in (z + 3) Ln) (h4 : vp_in (z + 4) Ln) (h5 : vp_in (z + 5) Ln) (hB : Bo M) (next : ∀ M, Bo M → Fr p l e room_1 s m #[Value.ref b] below meth c G 600000 7302249 Qf 4 1355 [some (.ref b), some (.ref (ad G 0)), some (.ref (ad G 71)), some (.int z)] [] M) : Fr p l e room_1 s m #[Value.ref b] below meth c G 600000 7302249 Qf 4 711 [some (.ref b), some (.ref (ad G 0)), some (.ref (ad G 71)), some (.int z)] [] M := by
  refine fr_aload_n X dL_law_711 rfl rfl ?_
  refine fr_aload_n X dL_law_712 rfl rfl ?_
  refine fr_iload_n X dL_law_713 rfl rfl ?_
  refine fr_iconst (v := 1) X dL_law_714 (by decide) ?_
  refine fr_iadd X dL_law_715 ?_
  refine fr_sld X hX h1 dL_law_716 ?_
  refine fr_callV (a := 0) (d := 4) (As := [.int (xs (z + 1).toNatClampNeg)]) (st := []) X dL_law_717 rfl cm_X10_back m_3_90 ⟨Nat.le_of_ble_eq_true rfl, Nat.le_of_ble_eq_true rfl, Nat.le_of_ble_eq_true rfl, Nat.le_of_ble_eq_true rfl⟩ rfl (Nat.le_of_ble_eq_true rfl) rfl hG (law_back hB ((xs (z + 1).toNatClampNeg))) (fun v M1 h => ?_)
  obtain ⟨r1, rfl, h⟩ := h
  show Fr p l e room_1 s m #[Value.ref b] below meth c G 600000 7302249 Qf 4 720 [some (.ref b), some (.ref (ad G 0)), some (.ref (ad G 71)), some (.int z)] [.int r1] M1
  refine fr_aload_n X dL_law_720 rfl rfl ?_
  refine fr_aload_n X dL_law_721 rfl rfl ?_
  refine fr_iload_n X dL_law_722 rfl rfl ?_
  refine fr_iconst (v := 1) X dL_law_723 (by decide) ?_
  refine fr_iadd X dL_law_724 ?_
  refine fr_sld X hX h1 dL_law_725 ?_
  refine fr_callV (a := 71) (d := 3) (As := [.int (xs (z + 1).toNatClampNeg)]) (st := [.int r1]) X dL_law_726 rfl cm_X11_back m_5_182 ⟨Nat.le_of_ble_eq_true rfl, Nat.le_of_ble_eq_true rfl, Nat.le_of_ble_eq_true rfl, Nat.le_of_ble_eq_true rfl⟩ rfl (Nat.le_of_ble_eq_true rfl) rfl hG h (fun v M2 h => ?_)
  obtain ⟨r2, rfl, h0, h⟩ := h
  show Fr p l e room_1 s m #[Value.ref b] below meth c G 600000 7302249 Qf 4 729 [some (.ref b), some (.ref (ad G 0)), some (.ref (ad G 71)), some (.int z)] [.int r2, .int r1] M2
  exact fr_icmp_eq (tgt := 1355) X dL_law_729 (by decide) (fun _ => next M2 h) (fun q => absurd h0 q)
set_option maxRecDepth 20000 in
theorem lc_16 (X : CxB p s m #[Value.ref b] c G code 4 R_law) (hX : va_X b Ln xs s s.heap ∧ b < s.heap.size ∧ ¬ AG G b) (hG : gl G = l) (h1 : vp_in (z + 1) Ln) (h2 : vp_in (z + 2) Ln) (h3 : vp_in (z + 3) Ln) (h4 : vp_in (z + 4) Ln) (h5 : vp_in (z + 5) Ln) (hB : Bo M) (next : ∀ M, Bo M → Fr p l e room_1 s m #[Value.ref b] below meth c G 600000 7302249 Qf 4 1355 [some (.ref b), some (.ref (ad G 0)), some (.ref (ad G 71)), some (.int z)] [] M) : Fr p l e room_1 s m #[Value.ref b] below meth c G 600000 7302249 Qf 4 734 [some (.ref b), some (.ref (ad G 0)), some (.ref (ad G 71)), some (.int z)] [] M := by
  refine fr_aload_n X dL_law_734 rfl rfl ?_
  refine fr_aload_n X dL_law_735 rfl rfl ?_
  refine fr_iload_n X dL_law_736 rfl rfl ?_
  refine fr_iconst (v := 1) X dL_law_737 (by decide) ?_
  refine fr_iadd X dL_law_738 ?_
  refine fr_sld X hX h1 dL_law_739 ?_
  refine fr_callV (a := 0) (d := 4) (As := [.int (xs (z + 1).toNatClampNeg)]) (st := []) X dL_law_740 rfl cm_X10_out m_3_99 ⟨Nat.le_of_ble_eq_true rfl, Nat.le_of_ble_eq_true rfl, Nat.le_of_ble_eq_true rfl, Nat.le_of_ble_eq_true rfl⟩ rfl (Nat.le_of_ble_eq_true rfl) rfl hG (law_out hB ((xs (z + 1).toNatClampNeg))) (fun v M1 h => ?_)
  obtain ⟨r1, rfl, h⟩ := h
  show Fr p l e room_1 s m #[Value.ref b] below meth c G 600000 7302249 Qf 4 743 [some (.ref b), some (.ref (ad G 0)), some (.ref (ad G 71)), some (.int z)] [.int r1] M1
  refine fr_aload_n X dL_law_743 rfl rfl ?_
  refine fr_aload_n X dL_law_744 rfl rfl ?_
  refine fr_iload_n X dL_law_745 rfl rfl ?_
  refine fr_iconst (v := 1) X dL_law_746 (by decide) ?_
  refine fr_iadd X dL_law_747 ?_
  refine fr_sld X hX h1 dL_law_748 ?_
  refine fr_callV (a := 71) (d := 3) (As := [.int (xs (z + 1).toNatClampNeg)]) (st := [.int r1]) X dL_law_749 rfl cm_X11_out m_5_186 ⟨Nat.le_of_ble_eq_true rfl, Nat.le_of_ble_eq_true rfl, Nat.le_of_ble_eq_true rfl, Nat.le_of_ble_eq_true rfl⟩ rfl (Nat.le_of_ble_eq_true rfl) rfl hG h (fun v M2 h => ?_)
  obtain ⟨r2, rfl, h0, h⟩ := h
  show Fr p l e room_1 s m #[Value.ref b] below meth c G 600000 7302249 Qf 4 752 [some (.ref b), some (.ref (ad G 0)), some (.ref (ad G 71)), some (.int z)] [.int r2, .int r1] M2
  exact fr_icmp_eq (tgt := 1355) X dL_law_752 (by decide) (fun _ => next M2 h) (fun q => absurd h0 q)
set_option maxRecDepth 20000 in
theorem lc_17 (X : CxB p s m #[Value.ref b] c G code 4 R_law) (hX : va_X b Ln xs s s.heap ∧ b < s.heap.size ∧ ¬ AG G b) (hG : gl G = l) (h1 : vp_in (z + 1) Ln) (h2 : vp_in (z + 2) Ln) (h3 : vp_in (z + 3) Ln) (h4 : vp_in (z + 4) Ln) (h5 : vp_in (z + 5) Ln) (hB : Bo M) (next : ∀ M, Bo M → Fr p l e room_1 s m #[Value.ref b] below meth c G 600000 7302249 Qf 4 1355 [some (.ref b), some (.ref (ad G 0)), some (.ref (ad G 71)), some (.int z)] [] M) : Fr p l e room_1 s m #[Value.ref b] below meth c G 600000 7302249 Qf 4 757 [some (.ref b), some (.ref (ad G 0)), some (.ref (ad G 71)), some (.int z)] [] M := by
  refine fr_aload_n X dL_law_757 rfl rfl ?_
  refine fr_aload_n X dL_law_758 rfl rfl ?_
  refine fr_iload_n X dL_law_759 rfl rfl ?_
  refine fr_iconst (v := 1) X dL_law_760 (by decide) ?_
  refine fr_iadd X dL_law_761 ?_
  refine fr_sld X hX h1 dL_law_762 ?_
  refine fr_callV (a := 0) (d := 4) (As := [.int (xs (z + 1).toNatClampNeg)]) (st := []) X dL_law_763 rfl cm_X10_undo m_3_103 ⟨Nat.le_of_ble_eq_true rfl, Nat.le_of_ble_eq_true rfl, Nat.le_of_ble_eq_true rfl, Nat.le_of_ble_eq_true rfl⟩ rfl (Nat.le_of_ble_eq_true rfl) rfl hG (law_undo hB ((xs (z + 1).toNatClampNeg))) (fun v M1 h => ?_)
  obtain ⟨r1, rfl, h⟩ := h
  show Fr p l e room_1 s m #[Value.ref b] below meth c G 600000 7302249 Qf 4 766 [some (.ref b), some (.ref (ad G 0)), some (.ref (ad G 71)), some (.int z)] [.int r1] M1
  refine fr_aload_n X dL_law_766 rfl rfl ?_
  refine fr_aload_n X dL_law_767 rfl rfl ?_
  refine fr_iload_n X dL_law_768 rfl rfl ?_
  refine fr_iconst (v := 1) X dL_law_769 (by decide) ?_
  refine fr_iadd X dL_law_770 ?_
  refine fr_sld X hX h1 dL_law_771 ?_
  refine fr_callV (a := 71) (d := 3) (As := [.int (xs (z + 1).toNatClampNeg)]) (st := [.int r1]) X dL_law_772 rfl cm_X11_undo m_5_190 ⟨Nat.le_of_ble_eq_true rfl, Nat.le_of_ble_eq_true rfl, Nat.le_of_ble_eq_true rfl, Nat.le_of_ble_eq_true rfl⟩ rfl (Nat.le_of_ble_eq_true rfl) rfl hG h (fun v M2 h => ?_)
  obtain ⟨r2, rfl, h0, h⟩ := h
  show Fr p l e room_1 s m #[Value.ref b] below meth c G 600000 7302249 Qf 4 775 [some (.ref b), some (.ref (ad G 0)), some (.ref (ad G 71)), some (.int z)] [.int r2, .int r1] M2
  exact fr_icmp_eq (tgt := 1355) X dL_law_775 (by decide) (fun _ => next M2 h) (fun q => absurd h0 q)
set_option maxRecDepth 20000 in
theorem lc_18 (X : CxB p s m #[Value.ref b] c G code 4 R_law) (hX : va_X b Ln xs s s.heap ∧ b < s.heap.size ∧ ¬ AG G b) (hG : gl G = l) (h1 : vp_in (z + 1) Ln) (h2 : vp_in (z + 2) Ln) (h3 : vp_in (z + 3) Ln) (h4 : vp_in (z + 4) Ln) (h5 : vp_in (z + 5) Ln) (hB : Bo M) (next : ∀ M, Bo M → Fr p l e room_1 s m #[Value.ref b] below meth c G 600000 7302249 Qf 4 1355 [some (.ref b), some (.ref (ad G 0)), some (.ref (ad G 71)), some (.int z)] [] M) : Fr p l e room_1 s m #[Value.ref b] below meth c G 600000 7302249 Qf 4 780 [some (.ref b), some (.ref (ad G 0)), some (.ref (ad G 71)), some (.int z)] [] M := by
  refine fr_aload_n X dL_law_780 rfl rfl ?_
  refine fr_aload_n X dL_law_781 rfl rfl ?_
  refine fr_iload_n X dL_law_782 rfl rfl ?_
  refine fr_iconst (v := 1) X dL_law_783 (by decide) ?_
  refine fr_iadd X dL_law_784 ?_
  refine fr_sld X hX h1 dL_law_785 ?_
  refine fr_callV (a := 0) (d := 2) (As := [.int (xs (z + 1).toNatClampNeg)]) (st := []) X dL_law_786 rfl cm_X10_keep m_3_108 ⟨Nat.le_of_ble_eq_true rfl, Nat.le_of_ble_eq_true rfl, Nat.le_of_ble_eq_true rfl, Nat.le_of_ble_eq_true rfl⟩ rfl (Nat.le_of_ble_eq_true rfl) rfl hG (law_keep hB ((xs (z + 1).toNatClampNeg))) (fun v M1 h => ?_)
  obtain ⟨r1, rfl, h⟩ := h
  show Fr p l e room_1 s m #[Value.ref b] below meth c G 600000 7302249 Qf 4 789 [some (.ref b), some (.ref (ad G 0)), some (.ref (ad G 71)), some (.int z)] [.int r1] M1
  refine fr_aload_n X dL_law_789 rfl rfl ?_
  refine fr_aload_n X dL_law_790 rfl rfl ?_
  refine fr_iload_n X dL_law_791 rfl rfl ?_
  refine fr_iconst (v := 1) X dL_law_792 (by decide) ?_
  refine fr_iadd X dL_law_793 ?_
  refine fr_sld X hX h1 dL_law_794 ?_
  refine fr_callV (a := 71) (d := 2) (As := [.int (xs (z + 1).toNatClampNeg)]) (st := [.int r1]) X dL_law_795 rfl cm_X11_keep m_5_194 ⟨Nat.le_of_ble_eq_true rfl, Nat.le_of_ble_eq_true rfl, Nat.le_of_ble_eq_true rfl, Nat.le_of_ble_eq_true rfl⟩ rfl (Nat.le_of_ble_eq_true rfl) rfl hG h (fun v M2 h => ?_)
  obtain ⟨r2, rfl, h0, h⟩ := h
  show Fr p l e room_1 s m #[Value.ref b] below meth c G 600000 7302249 Qf 4 798 [some (.ref b), some (.ref (ad G 0)), some (.ref (ad G 71)), some (.int z)] [.int r2, .int r1] M2
  exact fr_icmp_eq (tgt := 1355) X dL_law_798 (by decide) (fun _ => next M2 h) (fun q => absurd h0 q)
set_option maxRecDepth 20000 in
theorem lc_19 (X : CxB p s m #[Value.ref b] c G code 4 R_law) (hX : va_X b Ln xs s s.heap ∧ b < s.heap.size ∧ ¬ AG G b) (hG : gl G = l) (h1 : vp_in (z + 1) Ln) (h2 : vp_in (z + 2) Ln) (h3 : vp_in (z + 3) Ln) (h4 : vp_in (z + 4) Ln) (h5 : vp_in (z + 5) Ln) (hB : Bo M) (next : ∀ M, Bo M → Fr p l e room_1 s m #[Value.ref b] below meth c G 600000 7302249 Qf 4 1355 [some (.ref b), some (.ref (ad G 0)), some (.ref (ad G 71)), some (.int z)] [] M) : Fr p l e room_1 s m #[Value.ref b] below meth c G 600000 7302249 Qf 4 803 [some (.ref b), some (.ref (ad G 0)), some (.ref (ad G 71)), some (.int z)] [] M := by
  refine fr_aload_n X dL_law_803 rfl rfl ?_
  refine fr_aload_n X dL_law_804 rfl rfl ?_
  refine fr_iload_n X dL_law_805 rfl rfl ?_
  refine fr_iconst (v := 1) X dL_law_806 (by decide) ?_
  refine fr_iadd X dL_law_807 ?_
  refine fr_sld X hX h1 dL_law_808 ?_
  refine fr_callV (a := 0) (d := 4) (As := [.int (xs (z + 1).toNatClampNeg)]) (st := []) X dL_law_809 rfl cm_X10_on m_3_116 ⟨Nat.le_of_ble_eq_true rfl, Nat.le_of_ble_eq_true rfl, Nat.le_of_ble_eq_true rfl, Nat.le_of_ble_eq_true rfl⟩ rfl (Nat.le_of_ble_eq_true rfl) rfl hG (law_on hB ((xs (z + 1).toNatClampNeg))) (fun v M1 h => ?_)
  obtain ⟨r1, rfl, h⟩ := h
  show Fr p l e room_1 s m #[Value.ref b] below meth c G 600000 7302249 Qf 4 812 [some (.ref b), some (.ref (ad G 0)), some (.ref (ad G 71)), some (.int z)] [.int r1] M1
  refine fr_aload_n X dL_law_812 rfl rfl ?_
  refine fr_aload_n X dL_law_813 rfl rfl ?_
  refine fr_iload_n X dL_law_814 rfl rfl ?_
  refine fr_iconst (v := 1) X dL_law_815 (by decide) ?_
  refine fr_iadd X dL_law_816 ?_
  refine fr_sld X hX h1 dL_law_817 ?_
  refine fr_callV (a := 71) (d := 3) (As := [.int (xs (z + 1).toNatClampNeg)]) (st := [.int r1]) X dL_law_818 rfl cm_X11_on m_5_198 ⟨Nat.le_of_ble_eq_true rfl, Nat.le_of_ble_eq_true rfl, Nat.le_of_ble_eq_true rfl, Nat.le_of_ble_eq_true rfl⟩ rfl (Nat.le_of_ble_eq_true rfl) rfl hG h (fun v M2 h => ?_)
  obtain ⟨r2, rfl, h0, h⟩ := h
  show Fr p l e room_1 s m #[Value.ref b] below meth c G 600000 7302249 Qf 4 821 [some (.ref b), some (.ref (ad G 0)), some (.ref (ad G 71)), some (.int z)] [.int r2, .int r1] M2
  exact fr_icmp_eq (tgt := 1355) X dL_law_821 (by decide) (fun _ => next M2 h) (fun q => absurd h0 q)
set_option maxRecDepth 20000 in
theorem lc_20 (X : CxB p s m #[Value.ref b] c G code 4 R_law) (hX : va_X b Ln xs s s.heap ∧ b < s.heap.size ∧ ¬ AG G b) (hG : gl G = l) (h1 : vp_in (z + 1) Ln) (h2 : vp_in (z + 2) Ln) (h3 : vp_in (z + 3) Ln) (h4 : vp_in (z + 4) Ln) (h5 : vp_in (z + 5) Ln) (hB : Bo M) (next : ∀ M, Bo M → Fr p l e room_1 s m #[Value.ref b] below meth c G 600000 7302249 Qf 4 1355 [some (.ref b), some (.ref (ad G 0)), some (.ref (ad G 71)), some (.int z)] [] M) : Fr p l e room_1 s m #[Value.ref b] below meth c G 600000 7302249 Qf 4 826 [some (.ref b), some (.ref (ad G 0)), some (.ref (ad G 71)), some (.int z)] [] M := by
  refine fr_aload_n X dL_law_826 rfl rfl ?_
  refine fr_aload_n X dL_law_827 rfl rfl ?_
  refine fr_iload_n X dL_law_828 rfl rfl ?_
  refine fr_iconst (v := 1) X dL_law_829 (by decide) ?_
  refine fr_iadd X dL_law_830 ?_
  refine fr_sld X hX h1 dL_law_831 ?_
  refine fr_callV (a := 0) (d := 6) (As := [.int (xs (z + 1).toNatClampNeg)]) (st := []) X dL_law_832 rfl cm_X10_good m_3_120 ⟨Nat.le_of_ble_eq_true rfl, Nat.le_of_ble_eq_true rfl, Nat.le_of_ble_eq_true rfl, Nat.le_of_ble_eq_true rfl⟩ rfl (Nat.le_of_ble_eq_true rfl) rfl hG (law_good hB ((xs (z + 1).toNatClampNeg))) (fun v M1 h => ?_)
  obtain ⟨r1, rfl, h⟩ := h
  show Fr p l e room_1 s m #[Value.ref b] below meth c G 600000 7302249 Qf 4 835 [some (.ref b), some (.ref (ad G 0)), some (.ref (ad G 71)), some (.int z)] [.int r1] M1
  refine fr_aload_n X dL_law_835 rfl rfl ?_
  refine fr_aload_n X dL_law_836 rfl rfl ?_
  refine fr_iload_n X dL_law_837 rfl rfl ?_
  refine fr_iconst (v := 1) X dL_law_838 (by decide) ?_
  refine fr_iadd X dL_law_839 ?_
  refine fr_sld X hX h1 dL_law_840 ?_
  refine fr_callV (a := 71) (d := 6) (As := [.int (xs (z + 1).toNatClampNeg)]) (st := [.int r1]) X dL_law_841 rfl cm_X11_good m_5_202 ⟨Nat.le_of_ble_eq_true rfl, Nat.le_of_ble_eq_true rfl, Nat.le_of_ble_eq_true rfl, Nat.le_of_ble_eq_true rfl⟩ rfl (Nat.le_of_ble_eq_true rfl) rfl hG h (fun v M2 h => ?_)
  obtain ⟨r2, rfl, h0, h⟩ := h
  show Fr p l e room_1 s m #[Value.ref b] below meth c G 600000 7302249 Qf 4 844 [some (.ref b), some (.ref (ad G 0)), some (.ref (ad G 71)), some (.int z)] [.int r2, .int r1] M2
  exact fr_icmp_eq (tgt := 1355) X dL_law_844 (by decide) (fun _ => next M2 h) (fun q => absurd h0 q)
set_option maxRecDepth 20000 in
theorem lc_21 (X : CxB p s m #[Value.ref b] c G code 4 R_law) (hX : va_X b Ln xs s s.heap ∧ b < s.heap.size ∧ ¬ AG G b) (hG : gl G = l) (h1 : vp_in (z + 1) Ln) (h2 : vp_in (z + 2) Ln) (h3 : vp_in (z + 3) Ln) (h4 : vp_in (z + 4) Ln) (h5 : vp_in (z + 5) Ln) (hB : Bo M) (next : ∀ M, Bo M → Fr p l e room_1 s m #[Value.ref b] below meth c G 600000 7302249 Qf 4 1355 [some (.ref b), some (.ref (ad G 0)), some (.ref (ad G 71)), some (.int z)] [] M) : Fr p l e room_1 s m #[Value.ref b] below meth c G 600000 7302249 Qf 4 849 [some (.ref b), some (.ref (ad G 0)), some (.ref (ad G 71)), some (.int z)] [] M := by
  refine fr_aload_n X dL_law_849 rfl rfl ?_
  refine fr_aload_n X dL_law_850 rfl rfl ?_
  refine fr_iload_n X dL_law_851 rfl rfl ?_
  refine fr_iconst (v := 1) X dL_law_852 (by decide) ?_
  refine fr_iadd X dL_law_853 ?_
  refine fr_sld X hX h1 dL_law_854 ?_
  refine fr_callV (a := 0) (d := 6) (As := [.int (xs (z + 1).toNatClampNeg)]) (st := []) X dL_law_855 rfl cm_X10_pairs m_3_138 ⟨Nat.le_of_ble_eq_true rfl, Nat.le_of_ble_eq_true rfl, Nat.le_of_ble_eq_true rfl, Nat.le_of_ble_eq_true rfl⟩ rfl (Nat.le_of_ble_eq_true rfl) rfl hG (law_pairs hB ((xs (z + 1).toNatClampNeg))) (fun v M1 h => ?_)
  obtain ⟨r1, rfl, h⟩ := h
  show Fr p l e room_1 s m #[Value.ref b] below meth c G 600000 7302249 Qf 4 858 [some (.ref b), some (.ref (ad G 0)), some (.ref (ad G 71)), some (.int z)] [.int r1] M1
  refine fr_aload_n X dL_law_858 rfl rfl ?_
  refine fr_aload_n X dL_law_859 rfl rfl ?_
  refine fr_iload_n X dL_law_860 rfl rfl ?_
  refine fr_iconst (v := 1) X dL_law_861 (by decide) ?_
  refine fr_iadd X dL_law_862 ?_
  refine fr_sld X hX h1 dL_law_863 ?_
  refine fr_callV (a := 71) (d := 6) (As := [.int (xs (z + 1).toNatClampNeg)]) (st := [.int r1]) X dL_law_864 rfl cm_X11_pairs m_5_217 ⟨Nat.le_of_ble_eq_true rfl, Nat.le_of_ble_eq_true rfl, Nat.le_of_ble_eq_true rfl, Nat.le_of_ble_eq_true rfl⟩ rfl (Nat.le_of_ble_eq_true rfl) rfl hG h (fun v M2 h => ?_)
  obtain ⟨r2, rfl, h0, h⟩ := h
  show Fr p l e room_1 s m #[Value.ref b] below meth c G 600000 7302249 Qf 4 867 [some (.ref b), some (.ref (ad G 0)), some (.ref (ad G 71)), some (.int z)] [.int r2, .int r1] M2
  exact fr_icmp_eq (tgt := 1355) X dL_law_867 (by decide) (fun _ => next M2 h) (fun q => absurd h0 q)
set_option maxRecDepth 20000 in
theorem lc_22 (X : CxB p s m #[Value.ref b] c G code 4 R_law) (hX : va_X b Ln xs s s.heap ∧ b < s.heap.size ∧ ¬ AG G b) (hG : gl G = l) (h1 : vp_in (z + 1) Ln) (h2 : vp_in (z + 2) Ln) (h3 : vp_in (z + 3) Ln) (h4 : vp_in (z + 4) Ln) (h5 : vp_in (z + 5) Ln) (hB : Bo M) (next : ∀ M, Bo M → Fr p l e room_1 s m #[Value.ref b] below meth c G 600000 7302249 Qf 4 1355 [some (.ref b), some (.ref (ad G 0)), some (.ref (ad G 71)), some (.int z)] [] M) : Fr p l e room_1 s m #[Value.ref b] below meth c G 600000 7302249 Qf 4 872 [some (.ref b), some (.ref (ad G 0)), some (.ref (ad G 71)), some (.int z)] [] M := by
  refine fr_aload_n X dL_law_872 rfl rfl ?_
  refine fr_callV (a := 0) (d := 6) (As := []) (st := []) X dL_law_873 rfl cm_X10_missed m_3_154 ⟨Nat.le_of_ble_eq_true rfl, Nat.le_of_ble_eq_true rfl, Nat.le_of_ble_eq_true rfl, Nat.le_of_ble_eq_true rfl⟩ rfl (Nat.le_of_ble_eq_true rfl) rfl hG (law_missed hB) (fun v M1 h => ?_)
  obtain ⟨r1, rfl, h⟩ := h
  show Fr p l e room_1 s m #[Value.ref b] below meth c G 600000 7302249 Qf 4 876 [some (.ref b), some (.ref (ad G 0)), some (.ref (ad G 71)), some (.int z)] [.int r1] M1
  refine fr_aload_n X dL_law_876 rfl rfl ?_
  refine fr_callV (a := 71) (d := 6) (As := []) (st := [.int r1]) X dL_law_877 rfl cm_X11_missed m_5_221 ⟨Nat.le_of_ble_eq_true rfl, Nat.le_of_ble_eq_true rfl, Nat.le_of_ble_eq_true rfl, Nat.le_of_ble_eq_true rfl⟩ rfl (Nat.le_of_ble_eq_true rfl) rfl hG h (fun v M2 h => ?_)
  obtain ⟨r2, rfl, h0, h⟩ := h
  show Fr p l e room_1 s m #[Value.ref b] below meth c G 600000 7302249 Qf 4 880 [some (.ref b), some (.ref (ad G 0)), some (.ref (ad G 71)), some (.int z)] [.int r2, .int r1] M2
  exact fr_icmp_eq (tgt := 1355) X dL_law_880 (by decide) (fun _ => next M2 h) (fun q => absurd h0 q)
set_option maxRecDepth 20000 in
theorem lc_23 (X : CxB p s m #[Value.ref b] c G code 4 R_law) (hX : va_X b Ln xs s s.heap ∧ b < s.heap.size ∧ ¬ AG G b) (hG : gl G = l) (h1 : vp_in (z + 1) Ln) (h2 : vp_in (z + 2) Ln) (h3 : vp_in (z + 3) Ln) (h4 : vp_in (z + 4) Ln) (h5 : vp_in (z + 5) Ln) (hB : Bo M) (next : ∀ M, Bo M → Fr p l e room_1 s m #[Value.ref b] below meth c G 600000 7302249 Qf 4 1355 [some (.ref b), some (.ref (ad G 0)), some (.ref (ad G 71)), some (.int z)] [] M) : Fr p l e room_1 s m #[Value.ref b] below meth c G 600000 7302249 Qf 4 885 [some (.ref b), some (.ref (ad G 0)), some (.ref (ad G 71)), some (.int z)] [] M := by
  refine fr_aload_n X dL_law_885 rfl rfl ?_
  refine fr_callV (a := 0) (d := 6) (As := []) (st := []) X dL_law_886 rfl cm_X10_wished m_3_163 ⟨Nat.le_of_ble_eq_true rfl, Nat.le_of_ble_eq_true rfl, Nat.le_of_ble_eq_true rfl, Nat.le_of_ble_eq_true rfl⟩ rfl (Nat.le_of_ble_eq_true rfl) rfl hG (law_wished hB) (fun v M1 h => ?_)
  obtain ⟨r1, rfl, h⟩ := h
  show Fr p l e room_1 s m #[Value.ref b] below meth c G 600000 7302249 Qf 4 889 [some (.ref b), some (.ref (ad G 0)), some (.ref (ad G 71)), some (.int z)] [.int r1] M1
  refine fr_aload_n X dL_law_889 rfl rfl ?_
  refine fr_callV (a := 71) (d := 6) (As := []) (st := [.int r1]) X dL_law_890 rfl cm_X11_wished m_5_225 ⟨Nat.le_of_ble_eq_true rfl, Nat.le_of_ble_eq_true rfl, Nat.le_of_ble_eq_true rfl, Nat.le_of_ble_eq_true rfl⟩ rfl (Nat.le_of_ble_eq_true rfl) rfl hG h (fun v M2 h => ?_)
  obtain ⟨r2, rfl, h0, h⟩ := h
  show Fr p l e room_1 s m #[Value.ref b] below meth c G 600000 7302249 Qf 4 893 [some (.ref b), some (.ref (ad G 0)), some (.ref (ad G 71)), some (.int z)] [.int r2, .int r1] M2
  exact fr_icmp_eq (tgt := 1355) X dL_law_893 (by decide) (fun _ => next M2 h) (fun q => absurd h0 q)
set_option maxRecDepth 20000 in
theorem lc_24 (X : CxB p s m #[Value.ref b] c G code 4 R_law) (hX : va_X b Ln xs s s.heap ∧ b < s.heap.size ∧ ¬ AG G b) (hG : gl G = l) (h1 : vp_in (z + 1) Ln) (h2 : vp_in (z + 2) Ln) (h3 : vp_in (z + 3) Ln) (h4 : vp_in (z + 4) Ln) (h5 : vp_in (z + 5) Ln) (hB : Bo M) (next : ∀ M, Bo M → Fr p l e room_1 s m #[Value.ref b] below meth c G 600000 7302249 Qf 4 1355 [some (.ref b), some (.ref (ad G 0)), some (.ref (ad G 71)), some (.int z)] [] M) : Fr p l e room_1 s m #[Value.ref b] below meth c G 600000 7302249 Qf 4 898 [some (.ref b), some (.ref (ad G 0)), some (.ref (ad G 71)), some (.int z)] [] M := by
  refine fr_aload_n X dL_law_898 rfl rfl ?_
  refine fr_aload_n X dL_law_899 rfl rfl ?_
  refine fr_iload_n X dL_law_900 rfl rfl ?_
  refine fr_iconst (v := 1) X dL_law_901 (by decide) ?_
  refine fr_iadd X dL_law_902 ?_
  refine fr_sld X hX h1 dL_law_903 ?_
  refine fr_aload_n X dL_law_904 rfl rfl ?_
  refine fr_iload_n X dL_law_905 rfl rfl ?_
  refine fr_iconst (v := 2) X dL_law_906 (by decide) ?_
  refine fr_iadd X dL_law_907 ?_
  refine fr_sld X hX h2 dL_law_908 ?_
  refine fr_callV (a := 0) (d := 12) (As := [.int (xs (z + 1).toNatClampNeg), .int (xs (z + 2).toNatClampNeg)]) (st := []) X dL_law_909 rfl cm_X10_days m_3_167 ⟨Nat.le_of_ble_eq_true rfl, Nat.le_of_ble_eq_true rfl, Nat.le_of_ble_eq_true rfl, Nat.le_of_ble_eq_true rfl⟩ rfl (Nat.le_of_ble_eq_true rfl) rfl hG (law_days hB ((xs (z + 1).toNatClampNeg)) ((xs (z + 2).toNatClampNeg))) (fun v M1 h => ?_)
  obtain ⟨r1, rfl, h⟩ := h
  show Fr p l e room_1 s m #[Value.ref b] below meth c G 600000 7302249 Qf 4 912 [some (.ref b), some (.ref (ad G 0)), some (.ref (ad G 71)), some (.int z)] [.int r1] M1
  refine fr_aload_n X dL_law_912 rfl rfl ?_
  refine fr_aload_n X dL_law_913 rfl rfl ?_
  refine fr_iload_n X dL_law_914 rfl rfl ?_
  refine fr_iconst (v := 1) X dL_law_915 (by decide) ?_
  refine fr_iadd X dL_law_916 ?_
  refine fr_sld X hX h1 dL_law_917 ?_
  refine fr_aload_n X dL_law_918 rfl rfl ?_
  refine fr_iload_n X dL_law_919 rfl rfl ?_
  refine fr_iconst (v := 2) X dL_law_920 (by decide) ?_
  refine fr_iadd X dL_law_921 ?_
  refine fr_sld X hX h2 dL_law_922 ?_
  refine fr_callV (a := 71) (d := 6) (As := [.int (xs (z + 1).toNatClampNeg), .int (xs (z + 2).toNatClampNeg)]) (st := [.int r1]) X dL_law_923 rfl cm_X11_days m_5_229 ⟨Nat.le_of_ble_eq_true rfl, Nat.le_of_ble_eq_true rfl, Nat.le_of_ble_eq_true rfl, Nat.le_of_ble_eq_true rfl⟩ rfl (Nat.le_of_ble_eq_true rfl) rfl hG h (fun v M2 h => ?_)
  obtain ⟨r2, rfl, h0, h⟩ := h
  show Fr p l e room_1 s m #[Value.ref b] below meth c G 600000 7302249 Qf 4 926 [some (.ref b), some (.ref (ad G 0)), some (.ref (ad G 71)), some (.int z)] [.int r2, .int r1] M2
  exact fr_icmp_eq (tgt := 1355) X dL_law_926 (by decide) (fun _ => next M2 h) (fun q => absurd h0 q)
set_option maxRecDepth 20000 in
theorem lc_25 (X : CxB p s m #[Value.ref b] c G code 4 R_law) (hX : va_X b Ln xs s s.heap ∧ b < s.heap.size ∧ ¬ AG G b) (hG : gl G = l) (h1 : vp_in (z + 1) Ln) (h2 : vp_in (z + 2) Ln) (h3 : vp_in (z + 3) Ln) (h4 : vp_in (z + 4) Ln) (h5 : vp_in (z + 5) Ln) (hB : Bo M) (next : ∀ M, Bo M → Fr p l e room_1 s m #[Value.ref b] below meth c G 600000 7302249 Qf 4 1355 [some (.ref b), some (.ref (ad G 0)), some (.ref (ad G 71)), some (.int z)] [] M) : Fr p l e room_1 s m #[Value.ref b] below meth c G 600000 7302249 Qf 4 931 [some (.ref b), some (.ref (ad G 0)), some (.ref (ad G 71)), some (.int z)] [] M := by
  refine fr_aload_n X dL_law_931 rfl rfl ?_
  refine fr_callV (a := 0) (d := 6) (As := []) (st := []) X dL_law_932 rfl cm_X10_room m_3_188 ⟨Nat.le_of_ble_eq_true rfl, Nat.le_of_ble_eq_true rfl, Nat.le_of_ble_eq_true rfl, Nat.le_of_ble_eq_true rfl⟩ rfl (Nat.le_of_ble_eq_true rfl) rfl hG (law_room hB) (fun v M1 h => ?_)
  obtain ⟨r1, rfl, h⟩ := h
  show Fr p l e room_1 s m #[Value.ref b] below meth c G 600000 7302249 Qf 4 935 [some (.ref b), some (.ref (ad G 0)), some (.ref (ad G 71)), some (.int z)] [.int r1] M1
  refine fr_aload_n X dL_law_935 rfl rfl ?_
  refine fr_callV (a := 71) (d := 6) (As := []) (st := [.int r1]) X dL_law_936 rfl cm_X11_room m_6_5 ⟨Nat.le_of_ble_eq_true rfl, Nat.le_of_ble_eq_true rfl, Nat.le_of_ble_eq_true rfl, Nat.le_of_ble_eq_true rfl⟩ rfl (Nat.le_of_ble_eq_true rfl) rfl hG h (fun v M2 h => ?_)
  obtain ⟨r2, rfl, h0, h⟩ := h
  show Fr p l e room_1 s m #[Value.ref b] below meth c G 600000 7302249 Qf 4 939 [some (.ref b), some (.ref (ad G 0)), some (.ref (ad G 71)), some (.int z)] [.int r2, .int r1] M2
  exact fr_icmp_eq (tgt := 1355) X dL_law_939 (by decide) (fun _ => next M2 h) (fun q => absurd h0 q)
set_option maxRecDepth 20000 in
theorem lc_26 (X : CxB p s m #[Value.ref b] c G code 4 R_law) (hX : va_X b Ln xs s s.heap ∧ b < s.heap.size ∧ ¬ AG G b) (hG : gl G = l) (h1 : vp_in (z + 1) Ln) (h2 : vp_in (z + 2) Ln) (h3 : vp_in (z + 3) Ln) (h4 : vp_in (z + 4) Ln) (h5 : vp_in (z + 5) Ln) (hB : Bo M) (next : ∀ M, Bo M → Fr p l e room_1 s m #[Value.ref b] below meth c G 600000 7302249 Qf 4 1355 [some (.ref b), some (.ref (ad G 0)), some (.ref (ad G 71)), some (.int z)] [] M) : Fr p l e room_1 s m #[Value.ref b] below meth c G 600000 7302249 Qf 4 944 [some (.ref b), some (.ref (ad G 0)), some (.ref (ad G 71)), some (.int z)] [] M := by
  refine fr_aload_n X dL_law_944 rfl rfl ?_
  refine fr_aload_n X dL_law_945 rfl rfl ?_
  refine fr_iload_n X dL_law_946 rfl rfl ?_
  refine fr_iconst (v := 1) X dL_law_947 (by decide) ?_
  refine fr_iadd X dL_law_948 ?_
  refine fr_sld X hX h1 dL_law_949 ?_
  refine fr_aload_n X dL_law_950 rfl rfl ?_
  refine fr_iload_n X dL_law_951 rfl rfl ?_
  refine fr_iconst (v := 2) X dL_law_952 (by decide) ?_
  refine fr_iadd X dL_law_953 ?_
  refine fr_sld X hX h2 dL_law_954 ?_
  refine fr_callV (a := 0) (d := 6) (As := [.int (xs (z + 1).toNatClampNeg), .int (xs (z + 2).toNatClampNeg)]) (st := []) X dL_law_955 rfl cm_X10_join m_3_209 ⟨Nat.le_of_ble_eq_true rfl, Nat.le_of_ble_eq_true rfl, Nat.le_of_ble_eq_true rfl, Nat.le_of_ble_eq_true rfl⟩ rfl (Nat.le_of_ble_eq_true rfl) rfl hG (law_join hB ((xs (z + 1).toNatClampNeg)) ((xs (z + 2).toNatClampNeg))) (fun v M1 h => ?_)
  obtain ⟨r1, rfl, h⟩ := h
  show Fr p l e room_1 s m #[Value.ref b] below meth c G 600000 7302249 Qf 4 958 [some (.ref b), some (.ref (ad G 0)), some (.ref (ad G 71)), some (.int z)] [.int r1] M1
  refine fr_aload_n X dL_law_958 rfl rfl ?_
  refine fr_aload_n X dL_law_959 rfl rfl ?_
  refine fr_iload_n X dL_law_960 rfl rfl ?_
  refine fr_iconst (v := 1) X dL_law_961 (by decide) ?_
  refine fr_iadd X dL_law_962 ?_
  refine fr_sld X hX h1 dL_law_963 ?_
  refine fr_aload_n X dL_law_964 rfl rfl ?_
  refine fr_iload_n X dL_law_965 rfl rfl ?_
  refine fr_iconst (v := 2) X dL_law_966 (by decide) ?_
  refine fr_iadd X dL_law_967 ?_
  refine fr_sld X hX h2 dL_law_968 ?_
  refine fr_callV (a := 71) (d := 6) (As := [.int (xs (z + 1).toNatClampNeg), .int (xs (z + 2).toNatClampNeg)]) (st := [.int r1]) X dL_law_969 rfl cm_X11_join m_6_13 ⟨Nat.le_of_ble_eq_true rfl, Nat.le_of_ble_eq_true rfl, Nat.le_of_ble_eq_true rfl, Nat.le_of_ble_eq_true rfl⟩ rfl (Nat.le_of_ble_eq_true rfl) rfl hG h (fun v M2 h => ?_)
  obtain ⟨r2, rfl, h0, h⟩ := h
  show Fr p l e room_1 s m #[Value.ref b] below meth c G 600000 7302249 Qf 4 972 [some (.ref b), some (.ref (ad G 0)), some (.ref (ad G 71)), some (.int z)] [.int r2, .int r1] M2
  exact fr_icmp_eq (tgt := 1355) X dL_law_972 (by decide) (fun _ => next M2 h) (fun q => absurd h0 q)
set_option maxRecDepth 20000 in
theorem lc_27 (X : CxB p s m #[Value.ref b] c G code 4 R_law) (hX : va_X b Ln xs s s.heap ∧ b < s.heap.size ∧ ¬ AG G b) (hG : gl G = l) (h1 : vp_in (z + 1) Ln) (h2 : vp_in (z + 2) Ln) (h3 : vp_in (z + 3) Ln) (h4 : vp_in (z + 4) Ln) (h5 : vp_in (z + 5) Ln) (hB : Bo M) (next : ∀ M, Bo M → Fr p l e room_1 s m #[Value.ref b] below meth c G 600000 7302249 Qf 4 1355 [some (.ref b), some (.ref (ad G 0)), some (.ref (ad G 71)), some (.int z)] [] M) : Fr p l e room_1 s m #[Value.ref b] below meth c G 600000 7302249 Qf 4 977 [some (.ref b), some (.ref (ad G 0)), some (.ref (ad G 71)), some (.int z)] [] M := by
  refine fr_aload_n X dL_law_977 rfl rfl ?_
  refine fr_aload_n X dL_law_978 rfl rfl ?_
  refine fr_iload_n X dL_law_979 rfl rfl ?_
  refine fr_iconst (v := 1) X dL_law_980 (by decide) ?_
  refine fr_iadd X dL_law_981 ?_
  refine fr_sld X hX h1 dL_law_982 ?_
  refine fr_aload_n X dL_law_983 rfl rfl ?_
  refine fr_iload_n X dL_law_984 rfl rfl ?_
  refine fr_iconst (v := 2) X dL_law_985 (by decide) ?_
  refine fr_iadd X dL_law_986 ?_
  refine fr_sld X hX h2 dL_law_987 ?_
  refine fr_callV (a := 0) (d := 7) (As := [.int (xs (z + 1).toNatClampNeg), .int (xs (z + 2).toNatClampNeg)]) (st := []) X dL_law_988 rfl cm_X10_sorts m_3_213 ⟨Nat.le_of_ble_eq_true rfl, Nat.le_of_ble_eq_true rfl, Nat.le_of_ble_eq_true rfl, Nat.le_of_ble_eq_true rfl⟩ rfl (Nat.le_of_ble_eq_true rfl) rfl hG (law_sorts hB ((xs (z + 1).toNatClampNeg)) ((xs (z + 2).toNatClampNeg))) (fun v M1 h => ?_)
  obtain ⟨r1, rfl, h⟩ := h
  show Fr p l e room_1 s m #[Value.ref b] below meth c G 600000 7302249 Qf 4 991 [some (.ref b), some (.ref (ad G 0)), some (.ref (ad G 71)), some (.int z)] [.int r1] M1
  refine fr_aload_n X dL_law_991 rfl rfl ?_
  refine fr_aload_n X dL_law_992 rfl rfl ?_
  refine fr_iload_n X dL_law_993 rfl rfl ?_
  refine fr_iconst (v := 1) X dL_law_994 (by decide) ?_
  refine fr_iadd X dL_law_995 ?_
  refine fr_sld X hX h1 dL_law_996 ?_
  refine fr_aload_n X dL_law_997 rfl rfl ?_
  refine fr_iload_n X dL_law_998 rfl rfl ?_
  refine fr_iconst (v := 2) X dL_law_999 (by decide) ?_
  refine fr_iadd X dL_law_1000 ?_
  refine fr_sld X hX h2 dL_law_1001 ?_
  refine fr_callV (a := 71) (d := 5) (As := [.int (xs (z + 1).toNatClampNeg), .int (xs (z + 2).toNatClampNeg)]) (st := [.int r1]) X dL_law_1002 rfl cm_X11_sorts m_6_17 ⟨Nat.le_of_ble_eq_true rfl, Nat.le_of_ble_eq_true rfl, Nat.le_of_ble_eq_true rfl, Nat.le_of_ble_eq_true rfl⟩ rfl (Nat.le_of_ble_eq_true rfl) rfl hG h (fun v M2 h => ?_)
  obtain ⟨r2, rfl, h0, h⟩ := h
  show Fr p l e room_1 s m #[Value.ref b] below meth c G 600000 7302249 Qf 4 1005 [some (.ref b), some (.ref (ad G 0)), some (.ref (ad G 71)), some (.int z)] [.int r2, .int r1] M2
  exact fr_icmp_eq (tgt := 1355) X dL_law_1005 (by decide) (fun _ => next M2 h) (fun q => absurd h0 q)
set_option maxRecDepth 20000 in
theorem lc_28 (X : CxB p s m #[Value.ref b] c G code 4 R_law) (hX : va_X b Ln xs s s.heap ∧ b < s.heap.size ∧ ¬ AG G b) (hG : gl G = l) (h1 : vp_in (z + 1) Ln) (h2 : vp_in (z + 2) Ln) (h3 : vp_in (z + 3) Ln) (h4 : vp_in (z + 4) Ln) (h5 : vp_in (z + 5) Ln) (hB : Bo M) (next : ∀ M, Bo M → Fr p l e room_1 s m #[Value.ref b] below meth c G 600000 7302249 Qf 4 1355 [some (.ref b), some (.ref (ad G 0)), some (.ref (ad G 71)), some (.int z)] [] M) : Fr p l e room_1 s m #[Value.ref b] below meth c G 600000 7302249 Qf 4 1010 [some (.ref b), some (.ref (ad G 0)), some (.ref (ad G 71)), some (.int z)] [] M := by
  refine fr_aload_n X dL_law_1010 rfl rfl ?_
  refine fr_aload_n X dL_law_1011 rfl rfl ?_
  refine fr_iload_n X dL_law_1012 rfl rfl ?_
  refine fr_iconst (v := 1) X dL_law_1013 (by decide) ?_
  refine fr_iadd X dL_law_1014 ?_
  refine fr_sld X hX h1 dL_law_1015 ?_
  refine fr_aload_n X dL_law_1016 rfl rfl ?_
  refine fr_iload_n X dL_law_1017 rfl rfl ?_
  refine fr_iconst (v := 2) X dL_law_1018 (by decide) ?_
  refine fr_iadd X dL_law_1019 ?_
  refine fr_sld X hX h2 dL_law_1020 ?_
  refine fr_callV (a := 0) (d := 7) (As := [.int (xs (z + 1).toNatClampNeg), .int (xs (z + 2).toNatClampNeg)]) (st := []) X dL_law_1021 rfl cm_X10_hands m_3_236 ⟨Nat.le_of_ble_eq_true rfl, Nat.le_of_ble_eq_true rfl, Nat.le_of_ble_eq_true rfl, Nat.le_of_ble_eq_true rfl⟩ rfl (Nat.le_of_ble_eq_true rfl) rfl hG (law_hands hB ((xs (z + 1).toNatClampNeg)) ((xs (z + 2).toNatClampNeg))) (fun v M1 h => ?_)
  obtain ⟨r1, rfl, h⟩ := h
  show Fr p l e room_1 s m #[Value.ref b] below meth c G 600000 7302249 Qf 4 1024 [some (.ref b), some (.ref (ad G 0)), some (.ref (ad G 71)), some (.int z)] [.int r1] M1
  refine fr_aload_n X dL_law_1024 rfl rfl ?_
  refine fr_aload_n X dL_law_1025 rfl rfl ?_
  refine fr_iload_n X dL_law_1026 rfl rfl ?_
  refine fr_iconst (v := 1) X dL_law_1027 (by decide) ?_
  refine fr_iadd X dL_law_1028 ?_
  refine fr_sld X hX h1 dL_law_1029 ?_
  refine fr_aload_n X dL_law_1030 rfl rfl ?_
  refine fr_iload_n X dL_law_1031 rfl rfl ?_
  refine fr_iconst (v := 2) X dL_law_1032 (by decide) ?_
  refine fr_iadd X dL_law_1033 ?_
  refine fr_sld X hX h2 dL_law_1034 ?_
  refine fr_callV (a := 71) (d := 5) (As := [.int (xs (z + 1).toNatClampNeg), .int (xs (z + 2).toNatClampNeg)]) (st := [.int r1]) X dL_law_1035 rfl cm_X11_hands m_6_29 ⟨Nat.le_of_ble_eq_true rfl, Nat.le_of_ble_eq_true rfl, Nat.le_of_ble_eq_true rfl, Nat.le_of_ble_eq_true rfl⟩ rfl (Nat.le_of_ble_eq_true rfl) rfl hG h (fun v M2 h => ?_)
  obtain ⟨r2, rfl, h0, h⟩ := h
  show Fr p l e room_1 s m #[Value.ref b] below meth c G 600000 7302249 Qf 4 1038 [some (.ref b), some (.ref (ad G 0)), some (.ref (ad G 71)), some (.int z)] [.int r2, .int r1] M2
  exact fr_icmp_eq (tgt := 1355) X dL_law_1038 (by decide) (fun _ => next M2 h) (fun q => absurd h0 q)
set_option maxRecDepth 20000 in
theorem lc_29 (X : CxB p s m #[Value.ref b] c G code 4 R_law) (hX : va_X b Ln xs s s.heap ∧ b < s.heap.size ∧ ¬ AG G b) (hG : gl G = l) (h1 : vp_in (z + 1) Ln) (h2 : vp_in (z + 2) Ln) (h3 : vp_in (z + 3) Ln) (h4 : vp_in (z + 4) Ln) (h5 : vp_in (z + 5) Ln) (hB : Bo M) (next : ∀ M, Bo M → Fr p l e room_1 s m #[Value.ref b] below meth c G 600000 7302249 Qf 4 1355 [some (.ref b), some (.ref (ad G 0)), some (.ref (ad G 71)), some (.int z)] [] M) : Fr p l e room_1 s m #[Value.ref b] below meth c G 600000 7302249 Qf 4 1043 [some (.ref b), some (.ref (ad G 0)), some (.ref (ad G 71)), some (.int z)] [] M := by
  refine fr_aload_n X dL_law_1043 rfl rfl ?_
  refine fr_aload_n X dL_law_1044 rfl rfl ?_
  refine fr_iload_n X dL_law_1045 rfl rfl ?_
  refine fr_iconst (v := 1) X dL_law_1046 (by decide) ?_
  refine fr_iadd X dL_law_1047 ?_
  refine fr_sld X hX h1 dL_law_1048 ?_
  refine fr_aload_n X dL_law_1049 rfl rfl ?_
  refine fr_iload_n X dL_law_1050 rfl rfl ?_
  refine fr_iconst (v := 2) X dL_law_1051 (by decide) ?_
  refine fr_iadd X dL_law_1052 ?_
  refine fr_sld X hX h2 dL_law_1053 ?_
  refine fr_callV (a := 0) (d := 7) (As := [.int (xs (z + 1).toNatClampNeg), .int (xs (z + 2).toNatClampNeg)]) (st := []) X dL_law_1054 rfl cm_X10_kinds m_4_4 ⟨Nat.le_of_ble_eq_true rfl, Nat.le_of_ble_eq_true rfl, Nat.le_of_ble_eq_true rfl, Nat.le_of_ble_eq_true rfl⟩ rfl (Nat.le_of_ble_eq_true rfl) rfl hG (law_kinds hB ((xs (z + 1).toNatClampNeg)) ((xs (z + 2).toNatClampNeg))) (fun v M1 h => ?_)
  obtain ⟨r1, rfl, h⟩ := h
  show Fr p l e room_1 s m #[Value.ref b] below meth c G 600000 7302249 Qf 4 1057 [some (.ref b), some (.ref (ad G 0)), some (.ref (ad G 71)), some (.int z)] [.int r1] M1
  refine fr_aload_n X dL_law_1057 rfl rfl ?_
  refine fr_aload_n X dL_law_1058 rfl rfl ?_
  refine fr_iload_n X dL_law_1059 rfl rfl ?_
  refine fr_iconst (v := 1) X dL_law_1060 (by decide) ?_
  refine fr_iadd X dL_law_1061 ?_
  refine fr_sld X hX h1 dL_law_1062 ?_
  refine fr_aload_n X dL_law_1063 rfl rfl ?_
  refine fr_iload_n X dL_law_1064 rfl rfl ?_
  refine fr_iconst (v := 2) X dL_law_1065 (by decide) ?_
  refine fr_iadd X dL_law_1066 ?_
  refine fr_sld X hX h2 dL_law_1067 ?_
  refine fr_callV (a := 71) (d := 6) (As := [.int (xs (z + 1).toNatClampNeg), .int (xs (z + 2).toNatClampNeg)]) (st := [.int r1]) X dL_law_1068 rfl cm_X11_kinds m_6_33 ⟨Nat.le_of_ble_eq_true rfl, Nat.le_of_ble_eq_true rfl, Nat.le_of_ble_eq_true rfl, Nat.le_of_ble_eq_true rfl⟩ rfl (Nat.le_of_ble_eq_true rfl) rfl hG h (fun v M2 h => ?_)
  obtain ⟨r2, rfl, h0, h⟩ := h
  show Fr p l e room_1 s m #[Value.ref b] below meth c G 600000 7302249 Qf 4 1071 [some (.ref b), some (.ref (ad G 0)), some (.ref (ad G 71)), some (.int z)] [.int r2, .int r1] M2
  exact fr_icmp_eq (tgt := 1355) X dL_law_1071 (by decide) (fun _ => next M2 h) (fun q => absurd h0 q)
set_option maxRecDepth 20000 in
theorem lc_30 (X : CxB p s m #[Value.ref b] c G code 4 R_law) (hX : va_X b Ln xs s s.heap ∧ b < s.heap.size ∧ ¬ AG G b) (hG : gl G = l) (h1 : vp_in (z + 1) Ln) (h2 : vp_in (z + 2) Ln) (h3 : vp_in (z + 3) Ln) (h4 : vp_in (z + 4) Ln) (h5 : vp_in (z + 5) Ln) (hB : Bo M) (next : ∀ M, Bo M → Fr p l e room_1 s m #[Value.ref b] below meth c G 600000 7302249 Qf 4 1355 [some (.ref b), some (.ref (ad G 0)), some (.ref (ad G 71)), some (.int z)] [] M) : Fr p l e room_1 s m #[Value.ref b] below meth c G 600000 7302249 Qf 4 1076 [some (.ref b), some (.ref (ad G 0)), some (.ref (ad G 71)), some (.int z)] [] M := by
  refine fr_aload_n X dL_law_1076 rfl rfl ?_
  refine fr_aload_n X dL_law_1077 rfl rfl ?_
  refine fr_iload_n X dL_law_1078 rfl rfl ?_
  refine fr_iconst (v := 1) X dL_law_1079 (by decide) ?_
  refine fr_iadd X dL_law_1080 ?_
  refine fr_sld X hX h1 dL_law_1081 ?_
  refine fr_aload_n X dL_law_1082 rfl rfl ?_
  refine fr_iload_n X dL_law_1083 rfl rfl ?_
  refine fr_iconst (v := 2) X dL_law_1084 (by decide) ?_
  refine fr_iadd X dL_law_1085 ?_
  refine fr_sld X hX h2 dL_law_1086 ?_
  refine fr_callV (a := 0) (d := 7) (As := [.int (xs (z + 1).toNatClampNeg), .int (xs (z + 2).toNatClampNeg)]) (st := []) X dL_law_1087 rfl cm_X10_test m_4_12 ⟨Nat.le_of_ble_eq_true rfl, Nat.le_of_ble_eq_true rfl, Nat.le_of_ble_eq_true rfl, Nat.le_of_ble_eq_true rfl⟩ rfl (Nat.le_of_ble_eq_true rfl) rfl hG (law_test hB ((xs (z + 1).toNatClampNeg)) ((xs (z + 2).toNatClampNeg))) (fun v M1 h => ?_)
  obtain ⟨r1, rfl, h⟩ := h
  show Fr p l e room_1 s m #[Value.ref b] below meth c G 600000 7302249 Qf 4 1090 [some (.ref b), some (.ref (ad G 0)), some (.ref (ad G 71)), some (.int z)] [.int r1] M1
  refine fr_aload_n X dL_law_1090 rfl rfl ?_
  refine fr_aload_n X dL_law_1091 rfl rfl ?_
  refine fr_iload_n X dL_law_1092 rfl rfl ?_
  refine fr_iconst (v := 1) X dL_law_1093 (by decide) ?_
  refine fr_iadd X dL_law_1094 ?_
  refine fr_sld X hX h1 dL_law_1095 ?_
  refine fr_aload_n X dL_law_1096 rfl rfl ?_
  refine fr_iload_n X dL_law_1097 rfl rfl ?_
  refine fr_iconst (v := 2) X dL_law_1098 (by decide) ?_
  refine fr_iadd X dL_law_1099 ?_
  refine fr_sld X hX h2 dL_law_1100 ?_
  refine fr_callV (a := 71) (d := 6) (As := [.int (xs (z + 1).toNatClampNeg), .int (xs (z + 2).toNatClampNeg)]) (st := [.int r1]) X dL_law_1101 rfl cm_X11_test m_6_41 ⟨Nat.le_of_ble_eq_true rfl, Nat.le_of_ble_eq_true rfl, Nat.le_of_ble_eq_true rfl, Nat.le_of_ble_eq_true rfl⟩ rfl (Nat.le_of_ble_eq_true rfl) rfl hG h (fun v M2 h => ?_)
  obtain ⟨r2, rfl, h0, h⟩ := h
  show Fr p l e room_1 s m #[Value.ref b] below meth c G 600000 7302249 Qf 4 1104 [some (.ref b), some (.ref (ad G 0)), some (.ref (ad G 71)), some (.int z)] [.int r2, .int r1] M2
  exact fr_icmp_eq (tgt := 1355) X dL_law_1104 (by decide) (fun _ => next M2 h) (fun q => absurd h0 q)
set_option maxRecDepth 20000 in
theorem lc_31 (X : CxB p s m #[Value.ref b] c G code 4 R_law) (hX : va_X b Ln xs s s.heap ∧ b < s.heap.size ∧ ¬ AG G b) (hG : gl G = l) (h1 : vp_in (z + 1) Ln) (h2 : vp_in (z + 2) Ln) (h3 : vp_in (z + 3) Ln) (h4 : vp_in (z + 4) Ln) (h5 : vp_in (z + 5) Ln) (hB : Bo M) (next : ∀ M, Bo M → Fr p l e room_1 s m #[Value.ref b] below meth c G 600000 7302249 Qf 4 1355 [some (.ref b), some (.ref (ad G 0)), some (.ref (ad G 71)), some (.int z)] [] M) : Fr p l e room_1 s m #[Value.ref b] below meth c G 600000 7302249 Qf 4 1109 [some (.ref b), some (.ref (ad G 0)), some (.ref (ad G 71)), some (.int z)] [] M := by
  refine fr_aload_n X dL_law_1109 rfl rfl ?_
  refine fr_aload_n X dL_law_1110 rfl rfl ?_
  refine fr_iload_n X dL_law_1111 rfl rfl ?_
  refine fr_iconst (v := 1) X dL_law_1112 (by decide) ?_
  refine fr_iadd X dL_law_1113 ?_
  refine fr_sld X hX h1 dL_law_1114 ?_
  refine fr_callV (a := 0) (d := 10) (As := [.int (xs (z + 1).toNatClampNeg)]) (st := []) X dL_law_1115 rfl cm_X10_duel m_4_30 ⟨Nat.le_of_ble_eq_true rfl, Nat.le_of_ble_eq_true rfl, Nat.le_of_ble_eq_true rfl, Nat.le_of_ble_eq_true rfl⟩ rfl (Nat.le_of_ble_eq_true rfl) rfl hG (law_duel hB ((xs (z + 1).toNatClampNeg))) (fun v M1 h => ?_)
  obtain ⟨r1, rfl, h⟩ := h
  show Fr p l e room_1 s m #[Value.ref b] below meth c G 600000 7302249 Qf 4 1118 [some (.ref b), some (.ref (ad G 0)), some (.ref (ad G 71)), some (.int z)] [.int r1] M1
  refine fr_aload_n X dL_law_1118 rfl rfl ?_
  refine fr_aload_n X dL_law_1119 rfl rfl ?_
  refine fr_iload_n X dL_law_1120 rfl rfl ?_
  refine fr_iconst (v := 1) X dL_law_1121 (by decide) ?_
  refine fr_iadd X dL_law_1122 ?_
  refine fr_sld X hX h1 dL_law_1123 ?_
  refine fr_callV (a := 71) (d := 6) (As := [.int (xs (z + 1).toNatClampNeg)]) (st := [.int r1]) X dL_law_1124 rfl cm_X11_duel m_6_49 ⟨Nat.le_of_ble_eq_true rfl, Nat.le_of_ble_eq_true rfl, Nat.le_of_ble_eq_true rfl, Nat.le_of_ble_eq_true rfl⟩ rfl (Nat.le_of_ble_eq_true rfl) rfl hG h (fun v M2 h => ?_)
  obtain ⟨r2, rfl, h0, h⟩ := h
  show Fr p l e room_1 s m #[Value.ref b] below meth c G 600000 7302249 Qf 4 1127 [some (.ref b), some (.ref (ad G 0)), some (.ref (ad G 71)), some (.int z)] [.int r2, .int r1] M2
  exact fr_icmp_eq (tgt := 1355) X dL_law_1127 (by decide) (fun _ => next M2 h) (fun q => absurd h0 q)
set_option maxRecDepth 20000 in
theorem lc_32 (X : CxB p s m #[Value.ref b] c G code 4 R_law) (hX : va_X b Ln xs s s.heap ∧ b < s.heap.size ∧ ¬ AG G b) (hG : gl G = l) (h1 : vp_in (z + 1) Ln) (h2 : vp_in (z + 2) Ln) (h3 : vp_in (z + 3) Ln) (h4 : vp_in (z + 4) Ln) (h5 : vp_in (z + 5) Ln) (hB : Bo M) (next : ∀ M, Bo M → Fr p l e room_1 s m #[Value.ref b] below meth c G 600000 7302249 Qf 4 1355 [some (.ref b), some (.ref (ad G 0)), some (.ref (ad G 71)), some (.int z)] [] M) : Fr p l e room_1 s m #[Value.ref b] below meth c G 600000 7302249 Qf 4 1132 [some (.ref b), some (.ref (ad G 0)), some (.ref (ad G 71)), some (.int z)] [] M := by
  refine fr_aload_n X dL_law_1132 rfl rfl ?_
  refine fr_aload_n X dL_law_1133 rfl rfl ?_
  refine fr_iload_n X dL_law_1134 rfl rfl ?_
  refine fr_iconst (v := 1) X dL_law_1135 (by decide) ?_
  refine fr_iadd X dL_law_1136 ?_
  refine fr_sld X hX h1 dL_law_1137 ?_
  refine fr_aload_n X dL_law_1138 rfl rfl ?_
  refine fr_iload_n X dL_law_1139 rfl rfl ?_
  refine fr_iconst (v := 2) X dL_law_1140 (by decide) ?_
  refine fr_iadd X dL_law_1141 ?_
  refine fr_sld X hX h2 dL_law_1142 ?_
  refine fr_aload_n X dL_law_1143 rfl rfl ?_
  refine fr_iload_n X dL_law_1144 rfl rfl ?_
  refine fr_iconst (v := 3) X dL_law_1145 (by decide) ?_
  refine fr_iadd X dL_law_1146 ?_
  refine fr_sld X hX h3 dL_law_1147 ?_
  refine fr_callV (a := 0) (d := 6) (As := [.int (xs (z + 1).toNatClampNeg), .int (xs (z + 2).toNatClampNeg), .int (xs (z + 3).toNatClampNeg)]) (st := []) X dL_law_1148 rfl cm_X10_odds m_4_44 ⟨Nat.le_of_ble_eq_true rfl, Nat.le_of_ble_eq_true rfl, Nat.le_of_ble_eq_true rfl, Nat.le_of_ble_eq_true rfl⟩ rfl (Nat.le_of_ble_eq_true rfl) rfl hG (law_odds hB ((xs (z + 1).toNatClampNeg)) ((xs (z + 2).toNatClampNeg)) ((xs (z + 3).toNatClampNeg))) (fun v M1 h => ?_)
  obtain ⟨r1, rfl, h⟩ := h
  show Fr p l e room_1 s m #[Value.ref b] below meth c G 600000 7302249 Qf 4 1151 [some (.ref b), some (.ref (ad G 0)), some (.ref (ad G 71)), some (.int z)] [.int r1] M1
  refine fr_aload_n X dL_law_1151 rfl rfl ?_
  refine fr_aload_n X dL_law_1152 rfl rfl ?_
  refine fr_iload_n X dL_law_1153 rfl rfl ?_
  refine fr_iconst (v := 1) X dL_law_1154 (by decide) ?_
  refine fr_iadd X dL_law_1155 ?_
  refine fr_sld X hX h1 dL_law_1156 ?_
  refine fr_aload_n X dL_law_1157 rfl rfl ?_
  refine fr_iload_n X dL_law_1158 rfl rfl ?_
  refine fr_iconst (v := 2) X dL_law_1159 (by decide) ?_
  refine fr_iadd X dL_law_1160 ?_
  refine fr_sld X hX h2 dL_law_1161 ?_
  refine fr_aload_n X dL_law_1162 rfl rfl ?_
  refine fr_iload_n X dL_law_1163 rfl rfl ?_
  refine fr_iconst (v := 3) X dL_law_1164 (by decide) ?_
  refine fr_iadd X dL_law_1165 ?_
  refine fr_sld X hX h3 dL_law_1166 ?_
  refine fr_callV (a := 71) (d := 6) (As := [.int (xs (z + 1).toNatClampNeg), .int (xs (z + 2).toNatClampNeg), .int (xs (z + 3).toNatClampNeg)]) (st := [.int r1]) X dL_law_1167 rfl cm_X11_odds m_6_64 ⟨Nat.le_of_ble_eq_true rfl, Nat.le_of_ble_eq_true rfl, Nat.le_of_ble_eq_true rfl, Nat.le_of_ble_eq_true rfl⟩ rfl (Nat.le_of_ble_eq_true rfl) rfl hG h (fun v M2 h => ?_)
  obtain ⟨r2, rfl, h0, h⟩ := h
  show Fr p l e room_1 s m #[Value.ref b] below meth c G 600000 7302249 Qf 4 1170 [some (.ref b), some (.ref (ad G 0)), some (.ref (ad G 71)), some (.int z)] [.int r2, .int r1] M2
  exact fr_icmp_eq (tgt := 1355) X dL_law_1170 (by decide) (fun _ => next M2 h) (fun q => absurd h0 q)
set_option maxRecDepth 20000 in
theorem lc_33 (X : CxB p s m #[Value.ref b] c G code 4 R_law) (hX : va_X b Ln xs s s.heap ∧ b < s.heap.size ∧ ¬ AG G b) (hG : gl G = l) (h1 : vp_in (z + 1) Ln) (h2 : vp_in (z + 2) Ln) (h3 : vp_in (z + 3) Ln) (h4 : vp_in (z + 4) Ln) (h5 : vp_in (z + 5) Ln) (hB : Bo M) (next : ∀ M, Bo M → Fr p l e room_1 s m #[Value.ref b] below meth c G 600000 7302249 Qf 4 1355 [some (.ref b), some (.ref (ad G 0)), some (.ref (ad G 71)), some (.int z)] [] M) : Fr p l e room_1 s m #[Value.ref b] below meth c G 600000 7302249 Qf 4 1175 [some (.ref b), some (.ref (ad G 0)), some (.ref (ad G 71)), some (.int z)] [] M := by
  refine fr_aload_n X dL_law_1175 rfl rfl ?_
  refine fr_aload_n X dL_law_1176 rfl rfl ?_
  refine fr_iload_n X dL_law_1177 rfl rfl ?_
  refine fr_iconst (v := 1) X dL_law_1178 (by decide) ?_
  refine fr_iadd X dL_law_1179 ?_
  refine fr_sld X hX h1 dL_law_1180 ?_
  refine fr_aload_n X dL_law_1181 rfl rfl ?_
  refine fr_iload_n X dL_law_1182 rfl rfl ?_
  refine fr_iconst (v := 2) X dL_law_1183 (by decide) ?_
  refine fr_iadd X dL_law_1184 ?_
  refine fr_sld X hX h2 dL_law_1185 ?_
  refine fr_callV (a := 0) (d := 6) (As := [.int (xs (z + 1).toNatClampNeg), .int (xs (z + 2).toNatClampNeg)]) (st := []) X dL_law_1186 rfl cm_X10_mid m_4_73 ⟨Nat.le_of_ble_eq_true rfl, Nat.le_of_ble_eq_true rfl, Nat.le_of_ble_eq_true rfl, Nat.le_of_ble_eq_true rfl⟩ rfl (Nat.le_of_ble_eq_true rfl) rfl hG (law_mid hB ((xs (z + 1).toNatClampNeg)) ((xs (z + 2).toNatClampNeg))) (fun v M1 h => ?_)
  obtain ⟨r1, rfl, h⟩ := h
  show Fr p l e room_1 s m #[Value.ref b] below meth c G 600000 7302249 Qf 4 1189 [some (.ref b), some (.ref (ad G 0)), some (.ref (ad G 71)), some (.int z)] [.int r1] M1
  refine fr_aload_n X dL_law_1189 rfl rfl ?_
  refine fr_aload_n X dL_law_1190 rfl rfl ?_
  refine fr_iload_n X dL_law_1191 rfl rfl ?_
  refine fr_iconst (v := 1) X dL_law_1192 (by decide) ?_
  refine fr_iadd X dL_law_1193 ?_
  refine fr_sld X hX h1 dL_law_1194 ?_
  refine fr_aload_n X dL_law_1195 rfl rfl ?_
  refine fr_iload_n X dL_law_1196 rfl rfl ?_
  refine fr_iconst (v := 2) X dL_law_1197 (by decide) ?_
  refine fr_iadd X dL_law_1198 ?_
  refine fr_sld X hX h2 dL_law_1199 ?_
  refine fr_callV (a := 71) (d := 6) (As := [.int (xs (z + 1).toNatClampNeg), .int (xs (z + 2).toNatClampNeg)]) (st := [.int r1]) X dL_law_1200 rfl cm_X11_mid m_6_88 ⟨Nat.le_of_ble_eq_true rfl, Nat.le_of_ble_eq_true rfl, Nat.le_of_ble_eq_true rfl, Nat.le_of_ble_eq_true rfl⟩ rfl (Nat.le_of_ble_eq_true rfl) rfl hG h (fun v M2 h => ?_)
  obtain ⟨r2, rfl, h0, h⟩ := h
  show Fr p l e room_1 s m #[Value.ref b] below meth c G 600000 7302249 Qf 4 1203 [some (.ref b), some (.ref (ad G 0)), some (.ref (ad G 71)), some (.int z)] [.int r2, .int r1] M2
  exact fr_icmp_eq (tgt := 1355) X dL_law_1203 (by decide) (fun _ => next M2 h) (fun q => absurd h0 q)
set_option maxRecDepth 20000 in
theorem lc_34 (X : CxB p s m #[Value.ref b] c G code 4 R_law) (hX : va_X b Ln xs s s.heap ∧ b < s.heap.size ∧ ¬ AG G b) (hG : gl G = l) (h1 : vp_in (z + 1) Ln) (h2 : vp_in (z + 2) Ln) (h3 : vp_in (z + 3) Ln) (h4 : vp_in (z + 4) Ln) (h5 : vp_in (z + 5) Ln) (hB : Bo M) (next : ∀ M, Bo M → Fr p l e room_1 s m #[Value.ref b] below meth c G 600000 7302249 Qf 4 1355 [some (.ref b), some (.ref (ad G 0)), some (.ref (ad G 71)), some (.int z)] [] M) : Fr p l e room_1 s m #[Value.ref b] below meth c G 600000 7302249 Qf 4 1208 [some (.ref b), some (.ref (ad G 0)), some (.ref (ad G 71)), some (.int z)] [] M := by
  refine fr_aload_n X dL_law_1208 rfl rfl ?_
  refine fr_aload_n X dL_law_1209 rfl rfl ?_
  refine fr_iload_n X dL_law_1210 rfl rfl ?_
  refine fr_iconst (v := 1) X dL_law_1211 (by decide) ?_
  refine fr_iadd X dL_law_1212 ?_
  refine fr_sld X hX h1 dL_law_1213 ?_
  refine fr_aload_n X dL_law_1214 rfl rfl ?_
  refine fr_iload_n X dL_law_1215 rfl rfl ?_
  refine fr_iconst (v := 2) X dL_law_1216 (by decide) ?_
  refine fr_iadd X dL_law_1217 ?_
  refine fr_sld X hX h2 dL_law_1218 ?_
  refine fr_callV (a := 0) (d := 6) (As := [.int (xs (z + 1).toNatClampNeg), .int (xs (z + 2).toNatClampNeg)]) (st := []) X dL_law_1219 rfl cm_X10_lots m_4_77 ⟨Nat.le_of_ble_eq_true rfl, Nat.le_of_ble_eq_true rfl, Nat.le_of_ble_eq_true rfl, Nat.le_of_ble_eq_true rfl⟩ rfl (Nat.le_of_ble_eq_true rfl) rfl hG (law_lots hB ((xs (z + 1).toNatClampNeg)) ((xs (z + 2).toNatClampNeg))) (fun v M1 h => ?_)
  obtain ⟨r1, rfl, h⟩ := h
  show Fr p l e room_1 s m #[Value.ref b] below meth c G 600000 7302249 Qf 4 1222 [some (.ref b), some (.ref (ad G 0)), some (.ref (ad G 71)), some (.int z)] [.int r1] M1
  refine fr_aload_n X dL_law_1222 rfl rfl ?_
  refine fr_aload_n X dL_law_1223 rfl rfl ?_
  refine fr_iload_n X dL_law_1224 rfl rfl ?_
  refine fr_iconst (v := 1) X dL_law_1225 (by decide) ?_
  refine fr_iadd X dL_law_1226 ?_
  refine fr_sld X hX h1 dL_law_1227 ?_
  refine fr_aload_n X dL_law_1228 rfl rfl ?_
  refine fr_iload_n X dL_law_1229 rfl rfl ?_
  refine fr_iconst (v := 2) X dL_law_1230 (by decide) ?_
  refine fr_iadd X dL_law_1231 ?_
  refine fr_sld X hX h2 dL_law_1232 ?_
  refine fr_callV (a := 71) (d := 6) (As := [.int (xs (z + 1).toNatClampNeg), .int (xs (z + 2).toNatClampNeg)]) (st := [.int r1]) X dL_law_1233 rfl cm_X11_lots m_6_92 ⟨Nat.le_of_ble_eq_true rfl, Nat.le_of_ble_eq_true rfl, Nat.le_of_ble_eq_true rfl, Nat.le_of_ble_eq_true rfl⟩ rfl (Nat.le_of_ble_eq_true rfl) rfl hG h (fun v M2 h => ?_)
  obtain ⟨r2, rfl, h0, h⟩ := h
  show Fr p l e room_1 s m #[Value.ref b] below meth c G 600000 7302249 Qf 4 1236 [some (.ref b), some (.ref (ad G 0)), some (.ref (ad G 71)), some (.int z)] [.int r2, .int r1] M2
  exact fr_icmp_eq (tgt := 1355) X dL_law_1236 (by decide) (fun _ => next M2 h) (fun q => absurd h0 q)
set_option maxRecDepth 20000 in
theorem lc_35 (X : CxB p s m #[Value.ref b] c G code 4 R_law) (hX : va_X b Ln xs s s.heap ∧ b < s.heap.size ∧ ¬ AG G b) (hG : gl G = l) (h1 : vp_in (z + 1) Ln) (h2 : vp_in (z + 2) Ln) (h3 : vp_in (z + 3) Ln) (h4 : vp_in (z + 4) Ln) (h5 : vp_in (z + 5) Ln) (hB : Bo M) (next : ∀ M, Bo M → Fr p l e room_1 s m #[Value.ref b] below meth c G 600000 7302249 Qf 4 1355 [some (.ref b), some (.ref (ad G 0)), some (.ref (ad G 71)), some (.int z)] [] M) : Fr p l e room_1 s m #[Value.ref b] below meth c G 600000 7302249 Qf 4 1241 [some (.ref b), some (.ref (ad G 0)), some (.ref (ad G 71)), some (.int z)] [] M := by
  refine fr_aload_n X dL_law_1241 rfl rfl ?_
  refine fr_callV (a := 0) (d := 1) (As := []) (st := []) X dL_law_1242 rfl cm_X10_asked m_4_95 ⟨Nat.le_of_ble_eq_true rfl, Nat.le_of_ble_eq_true rfl, Nat.le_of_ble_eq_true rfl, Nat.le_of_ble_eq_true rfl⟩ rfl (Nat.le_of_ble_eq_true rfl) rfl hG (law_asked hB) (fun v M1 h => ?_)
  obtain ⟨r1, rfl, h⟩ := h
  show Fr p l e room_1 s m #[Value.ref b] below meth c G 600000 7302249 Qf 4 1245 [some (.ref b), some (.ref (ad G 0)), some (.ref (ad G 71)), some (.int z)] [.int r1] M1
  refine fr_aload_n X dL_law_1245 rfl rfl ?_
  refine fr_callV (a := 71) (d := 1) (As := []) (st := [.int r1]) X dL_law_1246 rfl cm_X11_asked m_6_100 ⟨Nat.le_of_ble_eq_true rfl, Nat.le_of_ble_eq_true rfl, Nat.le_of_ble_eq_true rfl, Nat.le_of_ble_eq_true rfl⟩ rfl (Nat.le_of_ble_eq_true rfl) rfl hG h (fun v M2 h => ?_)
  obtain ⟨r2, rfl, h0, h⟩ := h
  show Fr p l e room_1 s m #[Value.ref b] below meth c G 600000 7302249 Qf 4 1249 [some (.ref b), some (.ref (ad G 0)), some (.ref (ad G 71)), some (.int z)] [.int r2, .int r1] M2
  exact fr_icmp_eq (tgt := 1355) X dL_law_1249 (by decide) (fun _ => next M2 h) (fun q => absurd h0 q)
set_option maxRecDepth 20000 in
theorem lc_36 (X : CxB p s m #[Value.ref b] c G code 4 R_law) (hX : va_X b Ln xs s s.heap ∧ b < s.heap.size ∧ ¬ AG G b) (hG : gl G = l) (h1 : vp_in (z + 1) Ln) (h2 : vp_in (z + 2) Ln) (h3 : vp_in (z + 3) Ln) (h4 : vp_in (z + 4) Ln) (h5 : vp_in (z + 5) Ln) (hB : Bo M) (next : ∀ M, Bo M → Fr p l e room_1 s m #[Value.ref b] below meth c G 600000 7302249 Qf 4 1355 [some (.ref b), some (.ref (ad G 0)), some (.ref (ad G 71)), some (.int z)] [] M) : Fr p l e room_1 s m #[Value.ref b] below meth c G 600000 7302249 Qf 4 1254 [some (.ref b), some (.ref (ad G 0)), some (.ref (ad G 71)), some (.int z)] [] M := by
  refine fr_aload_n X dL_law_1254 rfl rfl ?_
  refine fr_callV (a := 0) (d := 1) (As := []) (st := []) X dL_law_1255 rfl cm_X10_upper m_4_99 ⟨Nat.le_of_ble_eq_true rfl, Nat.le_of_ble_eq_true rfl, Nat.le_of_ble_eq_true rfl, Nat.le_of_ble_eq_true rfl⟩ rfl (Nat.le_of_ble_eq_true rfl) rfl hG (law_upper hB) (fun v M1 h => ?_)
  obtain ⟨r1, rfl, h⟩ := h
  show Fr p l e room_1 s m #[Value.ref b] below meth c G 600000 7302249 Qf 4 1258 [some (.ref b), some (.ref (ad G 0)), some (.ref (ad G 71)), some (.int z)] [.long r1] M1
  refine fr_aload_n X dL_law_1258 rfl rfl ?_
  refine fr_callV (a := 71) (d := 1) (As := []) (st := [.long r1]) X dL_law_1259 rfl cm_X11_upper m_6_104 ⟨Nat.le_of_ble_eq_true rfl, Nat.le_of_ble_eq_true rfl, Nat.le_of_ble_eq_true rfl, Nat.le_of_ble_eq_true rfl⟩ rfl (Nat.le_of_ble_eq_true rfl) rfl hG h (fun v M2 h => ?_)
  obtain ⟨r2, rfl, h0, h⟩ := h
  show Fr p l e room_1 s m #[Value.ref b] below meth c G 600000 7302249 Qf 4 1262 [some (.ref b), some (.ref (ad G 0)), some (.ref (ad G 71)), some (.int z)] [.long r2, .long r1] M2
  refine fr_lcmp X dL_law_1262 ?_
  exact fr_if_eq (tgt := 1355) X dL_law_1263 (by decide) (fun _ => next M2 h) (fun q => absurd ((lg_cmp_eq r1 r2).mpr h0) q)
set_option maxRecDepth 20000 in
theorem lc_37 (X : CxB p s m #[Value.ref b] c G code 4 R_law) (hX : va_X b Ln xs s s.heap ∧ b < s.heap.size ∧ ¬ AG G b) (hG : gl G = l) (h1 : vp_in (z + 1) Ln) (h2 : vp_in (z + 2) Ln) (h3 : vp_in (z + 3) Ln) (h4 : vp_in (z + 4) Ln) (h5 : vp_in (z + 5) Ln) (hB : Bo M) (next : ∀ M, Bo M → Fr p l e room_1 s m #[Value.ref b] below meth c G 600000 7302249 Qf 4 1355 [some (.ref b), some (.ref (ad G 0)), some (.ref (ad G 71)), some (.int z)] [] M) : Fr p l e room_1 s m #[Value.ref b] below meth c G 600000 7302249 Qf 4 1268 [some (.ref b), some (.ref (ad G 0)), some (.ref (ad G 71)), some (.int z)] [] M := by
  refine fr_aload_n X dL_law_1268 rfl rfl ?_
  refine fr_callV (a := 0) (d := 1) (As := []) (st := []) X dL_law_1269 rfl cm_X10_lower m_4_103 ⟨Nat.le_of_ble_eq_true rfl, Nat.le_of_ble_eq_true rfl, Nat.le_of_ble_eq_true rfl, Nat.le_of_ble_eq_true rfl⟩ rfl (Nat.le_of_ble_eq_true rfl) rfl hG (law_lower hB) (fun v M1 h => ?_)
  obtain ⟨r1, rfl, h⟩ := h
  show Fr p l e room_1 s m #[Value.ref b] below meth c G 600000 7302249 Qf 4 1272 [some (.ref b), some (.ref (ad G 0)), some (.ref (ad G 71)), some (.int z)] [.long r1] M1
  refine fr_aload_n X dL_law_1272 rfl rfl ?_
  refine fr_callV (a := 71) (d := 1) (As := []) (st := [.long r1]) X dL_law_1273 rfl cm_X11_lower m_6_108 ⟨Nat.le_of_ble_eq_true rfl, Nat.le_of_ble_eq_true rfl, Nat.le_of_ble_eq_true rfl, Nat.le_of_ble_eq_true rfl⟩ rfl (Nat.le_of_ble_eq_true rfl) rfl hG h (fun v M2 h => ?_)
  obtain ⟨r2, rfl, h0, h⟩ := h
  show Fr p l e room_1 s m #[Value.ref b] below meth c G 600000 7302249 Qf 4 1276 [some (.ref b), some (.ref (ad G 0)), some (.ref (ad G 71)), some (.int z)] [.long r2, .long r1] M2
  refine fr_lcmp X dL_law_1276 ?_
  exact fr_if_eq (tgt := 1355) X dL_law_1277 (by decide) (fun _ => next M2 h) (fun q => absurd ((lg_cmp_eq r1 r2).mpr h0) q)
set_option maxRecDepth 20000 in
theorem lc_38 (X : CxB p s m #[Value.ref b] c G code 4 R_law) (hX : va_X b Ln xs s s.heap ∧ b < s.heap.size ∧ ¬ AG G b) (hG : gl G = l) (h1 : vp_in (z + 1) Ln) (h2 : vp_in (z + 2) Ln) (h3 : vp_in (z + 3) Ln) (h4 : vp_in (z + 4) Ln) (h5 : vp_in (z + 5) Ln) (hB : Bo M) (next : ∀ M, Bo M → Fr p l e room_1 s m #[Value.ref b] below meth c G 600000 7302249 Qf 4 1355 [some (.ref b), some (.ref (ad G 0)), some (.ref (ad G 71)), some (.int z)] [] M) : Fr p l e room_1 s m #[Value.ref b] below meth c G 600000 7302249 Qf 4 1282 [some (.ref b), some (.ref (ad G 0)), some (.ref (ad G 71)), some (.int z)] [] M := by
  refine fr_aload_n X dL_law_1282 rfl rfl ?_
  refine fr_aload_n X dL_law_1283 rfl rfl ?_
  refine fr_iload_n X dL_law_1284 rfl rfl ?_
  refine fr_iconst (v := 1) X dL_law_1285 (by decide) ?_
  refine fr_iadd X dL_law_1286 ?_
  refine fr_sld X hX h1 dL_law_1287 ?_
  refine fr_callV (a := 0) (d := 5) (As := [.int (xs (z + 1).toNatClampNeg)]) (st := []) X dL_law_1288 rfl cm_X10_count m_4_107 ⟨Nat.le_of_ble_eq_true rfl, Nat.le_of_ble_eq_true rfl, Nat.le_of_ble_eq_true rfl, Nat.le_of_ble_eq_true rfl⟩ rfl (Nat.le_of_ble_eq_true rfl) rfl hG (law_count hB ((xs (z + 1).toNatClampNeg))) (fun v M1 h => ?_)
  obtain ⟨r1, rfl, h⟩ := h
  show Fr p l e room_1 s m #[Value.ref b] below meth c G 600000 7302249 Qf 4 1291 [some (.ref b), some (.ref (ad G 0)), some (.ref (ad G 71)), some (.int z)] [.int r1] M1
  refine fr_aload_n X dL_law_1291 rfl rfl ?_
  refine fr_aload_n X dL_law_1292 rfl rfl ?_
  refine fr_iload_n X dL_law_1293 rfl rfl ?_
  refine fr_iconst (v := 1) X dL_law_1294 (by decide) ?_
  refine fr_iadd X dL_law_1295 ?_
  refine fr_sld X hX h1 dL_law_1296 ?_
  refine fr_callV (a := 71) (d := 2) (As := [.int (xs (z + 1).toNatClampNeg)]) (st := [.int r1]) X dL_law_1297 rfl cm_X11_count m_6_112 ⟨Nat.le_of_ble_eq_true rfl, Nat.le_of_ble_eq_true rfl, Nat.le_of_ble_eq_true rfl, Nat.le_of_ble_eq_true rfl⟩ rfl (Nat.le_of_ble_eq_true rfl) rfl hG h (fun v M2 h => ?_)
  obtain ⟨r2, rfl, h0, h⟩ := h
  show Fr p l e room_1 s m #[Value.ref b] below meth c G 600000 7302249 Qf 4 1300 [some (.ref b), some (.ref (ad G 0)), some (.ref (ad G 71)), some (.int z)] [.int r2, .int r1] M2
  exact fr_icmp_eq (tgt := 1355) X dL_law_1300 (by decide) (fun _ => next M2 h) (fun q => absurd h0 q)
set_option maxRecDepth 20000 in
theorem lc_39 (X : CxB p s m #[Value.ref b] c G code 4 R_law) (hX : va_X b Ln xs s s.heap ∧ b < s.heap.size ∧ ¬ AG G b) (hG : gl G = l) (h1 : vp_in (z + 1) Ln) (h2 : vp_in (z + 2) Ln) (h3 : vp_in (z + 3) Ln) (h4 : vp_in (z + 4) Ln) (h5 : vp_in (z + 5) Ln) (hB : Bo M) (next : ∀ M, Bo M → Fr p l e room_1 s m #[Value.ref b] below meth c G 600000 7302249 Qf 4 1355 [some (.ref b), some (.ref (ad G 0)), some (.ref (ad G 71)), some (.int z)] [] M) : Fr p l e room_1 s m #[Value.ref b] below meth c G 600000 7302249 Qf 4 1305 [some (.ref b), some (.ref (ad G 0)), some (.ref (ad G 71)), some (.int z)] [] M := by
  refine fr_aload_n X dL_law_1305 rfl rfl ?_
  refine fr_callV (a := 0) (d := 1) (As := []) (st := []) X dL_law_1306 rfl cm_X10_finding m_4_129 ⟨Nat.le_of_ble_eq_true rfl, Nat.le_of_ble_eq_true rfl, Nat.le_of_ble_eq_true rfl, Nat.le_of_ble_eq_true rfl⟩ rfl (Nat.le_of_ble_eq_true rfl) rfl hG (law_finding hB) (fun v M1 h => ?_)
  obtain ⟨r1, rfl, h⟩ := h
  show Fr p l e room_1 s m #[Value.ref b] below meth c G 600000 7302249 Qf 4 1309 [some (.ref b), some (.ref (ad G 0)), some (.ref (ad G 71)), some (.int z)] [.int r1] M1
  refine fr_aload_n X dL_law_1309 rfl rfl ?_
  refine fr_callV (a := 71) (d := 1) (As := []) (st := [.int r1]) X dL_law_1310 rfl cm_X11_finding m_6_116 ⟨Nat.le_of_ble_eq_true rfl, Nat.le_of_ble_eq_true rfl, Nat.le_of_ble_eq_true rfl, Nat.le_of_ble_eq_true rfl⟩ rfl (Nat.le_of_ble_eq_true rfl) rfl hG h (fun v M2 h => ?_)
  obtain ⟨r2, rfl, h0, h⟩ := h
  show Fr p l e room_1 s m #[Value.ref b] below meth c G 600000 7302249 Qf 4 1313 [some (.ref b), some (.ref (ad G 0)), some (.ref (ad G 71)), some (.int z)] [.int r2, .int r1] M2
  exact fr_icmp_eq (tgt := 1355) X dL_law_1313 (by decide) (fun _ => next M2 h) (fun q => absurd h0 q)
set_option maxRecDepth 20000 in
theorem lc_40 (X : CxB p s m #[Value.ref b] c G code 4 R_law) (hX : va_X b Ln xs s s.heap ∧ b < s.heap.size ∧ ¬ AG G b) (hG : gl G = l) (h1 : vp_in (z + 1) Ln) (h2 : vp_in (z + 2) Ln) (h3 : vp_in (z + 3) Ln) (h4 : vp_in (z + 4) Ln) (h5 : vp_in (z + 5) Ln) (hB : Bo M) (next : ∀ M, Bo M → Fr p l e room_1 s m #[Value.ref b] below meth c G 600000 7302249 Qf 4 1355 [some (.ref b), some (.ref (ad G 0)), some (.ref (ad G 71)), some (.int z)] [] M) : Fr p l e room_1 s m #[Value.ref b] below meth c G 600000 7302249 Qf 4 1318 [some (.ref b), some (.ref (ad G 0)), some (.ref (ad G 71)), some (.int z)] [] M := by
  refine fr_aload_n X dL_law_1318 rfl rfl ?_
  refine fr_aload_n X dL_law_1319 rfl rfl ?_
  refine fr_iload_n X dL_law_1320 rfl rfl ?_
  refine fr_iconst (v := 1) X dL_law_1321 (by decide) ?_
  refine fr_iadd X dL_law_1322 ?_
  refine fr_sld X hX h1 dL_law_1323 ?_
  refine fr_callV (a := 0) (d := 1) (As := [.int (xs (z + 1).toNatClampNeg)]) (st := []) X dL_law_1324 rfl cm_X10_findings m_4_133 ⟨Nat.le_of_ble_eq_true rfl, Nat.le_of_ble_eq_true rfl, Nat.le_of_ble_eq_true rfl, Nat.le_of_ble_eq_true rfl⟩ rfl (Nat.le_of_ble_eq_true rfl) rfl hG (law_findings hB ((xs (z + 1).toNatClampNeg))) (fun v M1 h => ?_)
  obtain ⟨r1, rfl, h⟩ := h
  show Fr p l e room_1 s m #[Value.ref b] below meth c G 600000 7302249 Qf 4 1327 [some (.ref b), some (.ref (ad G 0)), some (.ref (ad G 71)), some (.int z)] [.int r1] M1
  refine fr_aload_n X dL_law_1327 rfl rfl ?_
  refine fr_aload_n X dL_law_1328 rfl rfl ?_
  refine fr_iload_n X dL_law_1329 rfl rfl ?_
  refine fr_iconst (v := 1) X dL_law_1330 (by decide) ?_
  refine fr_iadd X dL_law_1331 ?_
  refine fr_sld X hX h1 dL_law_1332 ?_
  refine fr_callV (a := 71) (d := 2) (As := [.int (xs (z + 1).toNatClampNeg)]) (st := [.int r1]) X dL_law_1333 rfl cm_X11_findings m_6_120 ⟨Nat.le_of_ble_eq_true rfl, Nat.le_of_ble_eq_true rfl, Nat.le_of_ble_eq_true rfl, Nat.le_of_ble_eq_true rfl⟩ rfl (Nat.le_of_ble_eq_true rfl) rfl hG h (fun v M2 h => ?_)
  obtain ⟨r2, rfl, h0, h⟩ := h
  show Fr p l e room_1 s m #[Value.ref b] below meth c G 600000 7302249 Qf 4 1336 [some (.ref b), some (.ref (ad G 0)), some (.ref (ad G 71)), some (.int z)] [.int r2, .int r1] M2
  exact fr_icmp_eq (tgt := 1355) X dL_law_1336 (by decide) (fun _ => next M2 h) (fun q => absurd h0 q)
set_option maxRecDepth 20000 in
theorem lc_41 (X : CxB p s m #[Value.ref b] c G code 4 R_law) (hX : va_X b Ln xs s s.heap ∧ b < s.heap.size ∧ ¬ AG G b) (hG : gl G = l) (h1 : vp_in (z + 1) Ln) (h2 : vp_in (z + 2) Ln) (h3 : vp_in (z + 3) Ln) (h4 : vp_in (z + 4) Ln) (h5 : vp_in (z + 5) Ln) (hB : Bo M) (next : ∀ M, Bo M → Fr p l e room_1 s m #[Value.ref b] below meth c G 600000 7302249 Qf 4 1355 [some (.ref b), some (.ref (ad G 0)), some (.ref (ad G 71)), some (.int z)] [] M) : Fr p l e room_1 s m #[Value.ref b] below meth c G 600000 7302249 Qf 4 1341 [some (.ref b), some (.ref (ad G 0)), some (.ref (ad G 71)), some (.int z)] [] M := by
  refine fr_aload_n X dL_law_1341 rfl rfl ?_
  refine fr_callV (a := 0) (d := 6) (As := []) (st := []) X dL_law_1342 rfl cm_X10_digest m_4_137 ⟨Nat.le_of_ble_eq_true rfl, Nat.le_of_ble_eq_true rfl, Nat.le_of_ble_eq_true rfl, Nat.le_of_ble_eq_true rfl⟩ rfl (Nat.le_of_ble_eq_true rfl) rfl hG (law_digest hB) (fun v M1 h => ?_)
  obtain ⟨r1, rfl, h⟩ := h
  show Fr p l e room_1 s m #[Value.ref b] below meth c G 600000 7302249 Qf 4 1345 [some (.ref b), some (.ref (ad G 0)), some (.ref (ad G 71)), some (.int z)] [.long r1] M1
  refine fr_aload_n X dL_law_1345 rfl rfl ?_
  refine fr_callV (a := 71) (d := 3) (As := []) (st := [.long r1]) X dL_law_1346 rfl cm_X11_digest m_6_124 ⟨Nat.le_of_ble_eq_true rfl, Nat.le_of_ble_eq_true rfl, Nat.le_of_ble_eq_true rfl, Nat.le_of_ble_eq_true rfl⟩ rfl (Nat.le_of_ble_eq_true rfl) rfl hG h (fun v M2 h => ?_)
  obtain ⟨r2, rfl, h0, h⟩ := h
  show Fr p l e room_1 s m #[Value.ref b] below meth c G 600000 7302249 Qf 4 1349 [some (.ref b), some (.ref (ad G 0)), some (.ref (ad G 71)), some (.int z)] [.long r2, .long r1] M2
  refine fr_lcmp X dL_law_1349 ?_
  exact fr_if_eq (tgt := 1355) X dL_law_1350 (by decide) (fun _ => next M2 h) (fun q => absurd ((lg_cmp_eq r1 r2).mpr h0) q)
end LCS
