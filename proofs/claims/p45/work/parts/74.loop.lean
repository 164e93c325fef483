/-! the law's loop -/
section LLP
variable {p : Program} {l : Launch} {e : Env} {s : State} {m : MethodId} {below : List Frame} {meth : Method} {c : Code} {Qf : State → Prop} {A : Nat → Prop} {Ga Gb : Glob} {b Ln : Nat} {xs : Nat → Int32}
theorem o_cnt {G : Glob} {M : Mem} {S : St} (hk : SOk S) (hC : RC S M) : C_X10_count G (nI 2) M (Ov (.int (nI (dL S.2.2.1).length)) S) := c_cnt (k := 2) hk hC (by decide) ⟨rfl, hC⟩
theorem tk_l (L E1 E2 E3 : List Deed) : (((L ++ E1) ++ E2) ++ E3).take L.length = L := by
  rw [List.append_assoc, List.append_assoc, List.take_left]
theorem ln_l (L E1 E2 E3 : List Deed) : L.length ≤ (((L ++ E1) ++ E2) ++ E3).length := by
  simp only [List.length_append]
  omega
set_option maxRecDepth 20000 in
theorem lw_half (X : CxA p s m #[Value.ref b] c cL_law 10 R_law) (T : Twn l s A Ga Gb) {i : Nat} {z : Int32} {S : St} {Ma Mb : Mem} (hk : SOk S) (h6 : dn S.2.2.1 = 6) (hCa : RC S Ma) (hCb : RC S Mb) (hl : (dL S.2.2.1).length < 36) (next : ∀ (S : St) (Ma Mb : Mem), SOk S → dn S.2.2.1 = 6 → RC S Ma → RC S Mb → FA p l e room_1 s m #[Value.ref b] below meth c A 600000 7302250 Qf 10 (W2 Ga Gb Ma Mb) 297 [some (.ref b), some (.ref (ad Ga 0)), some (.ref (ad Gb 0)), some (.int 1), some (.int (nI i)), none, none, none, none, none] []) : FA p l e room_1 s m #[Value.ref b] below meth c A 600000 7302250 Qf 10 (W2 Ga Gb Ma Mb) 113 [some (.ref b), some (.ref (ad Ga 0)), some (.ref (ad Gb 0)), some (.int 1), some (.int (nI i)), some (.int z), some (.int (nI (dL S.2.2.1).length)), none, none, none] [] := by
  obtain ⟨r1, S1, hk1, ⟨E1, e1⟩, f1⟩ := dt_wear hk (lw (z >>> (5 &&& 31)) 6) (lw (z >>> (8 &&& 31)) 6)
  obtain ⟨r2, S2, hk2, ⟨E2, e2⟩, f2⟩ := dt_lose hk1 (lw (z >>> (11 &&& 31)) 6)
  obtain ⟨r3, S3, hk3, ⟨E3, e3⟩, f3⟩ := dt_out hk2 (lw (z >>> (14 &&& 31)) 6)
  have e123 : S3 = sL S (((dL S.2.2.1 ++ E1) ++ E2) ++ E3) := by rw [e3, e2, e1]; rfl
  have eL : dL S3.2.2.1 = ((dL S.2.2.1 ++ E1) ++ E2) ++ E3 := by rw [e123]; rfl
  have eU : sL S3 ((dL S3.2.2.1).take (dL S.2.2.1).length) = S := by rw [eL, tk_l, e123]; rfl
  have lU : (dL S.2.2.1).length ≤ (dL S3.2.2.1).length := by rw [eL]; exact ln_l _ _ _ _
  have hkK : SOk (sK S (fu S.2.2.2.1 2 (some (dL S.2.2.1)))) := KOk.up hk (by omega) 2
  obtain ⟨j, hj, ej⟩ := pk_andE (z >>> (3 &&& 31)) (m := 268435455) 28 (by decide)
  obtain ⟨E4, e4⟩ := lotN_app 2 (sK S (fu S.2.2.2.1 2 (some (dL S.2.2.1)))) (1 + j)
  have hk4 : SOk (lotN (sK S (fu S.2.2.2.1 2 (some (dL S.2.2.1)))) 2 (1 + j)) := lotN_ok 2 _ _ hkK (show 0 < dn S.2.2.1 by omega) (show (dL S.2.2.1).length + 2 ≤ 40 by omega)
  have hn4 : (lotN (sK S (fu S.2.2.2.1 2 (some (dL S.2.2.1)))) 2 (1 + j)).2.2.2.1 2 = some (dL S.2.2.1) := by rw [e4]; show fu S.2.2.2.1 2 (some (dL S.2.2.1)) 2 = _; exact fu_s _ _ _
  have eO : sL (lotN (sK S (fu S.2.2.2.1 2 (some (dL S.2.2.1)))) 2 (1 + j)) (dL S.2.2.1) = sK S (fu S.2.2.2.1 2 (some (dL S.2.2.1))) := by rw [e4]; rfl
  have hj2 : 1 + j < 2147483647 := by omega
  refine fa_iload_n X dL_law_113 rfl rfl ?_
  refine fa_if_eq (tgt := 297) X dL_law_114 (by decide) (fun z => absurd z (by decide)) (fun _ => ?_)
  refine fa_aload_n X dL_law_117 rfl rfl ?_
  refine fa_q (d := 6) (As := []) (st := []) X T dL_law_118 cm_X10_digest m_3_27 ⟨Nat.le_of_ble_eq_true rfl, Nat.le_of_ble_eq_true rfl, Nat.le_of_ble_eq_true rfl, Nat.le_of_ble_eq_true rfl⟩ rfl (Nat.le_of_ble_eq_true rfl) rfl (o_digest hk hCb) fun Mq1 hq1 => ?_
  refine fa_lstore (ls' := [some (.ref b), some (.ref (ad Ga 0)), some (.ref (ad Gb 0)), some (.int 1), some (.int (nI i)), some (.int z), some (.int (nI (dL S.2.2.1).length)), some (.long (dg5 S)), none, none]) X dL_law_121 (by decide) rfl rfl ?_
  refine fa_aload_n X dL_law_123 rfl rfl ?_
  refine fa_iload X dL_law_124 rfl ?_
  refine fa_iconst (v := 5) X dL_law_126 (by decide) ?_
  refine fa_ishr X dL_law_127 ?_
  refine fa_bipush (v := 6) X dL_law_128 (by decide) ?_
  refine fa_sq (d := 1) (As := [.int (z >>> (5 &&& 31)), .int 6]) (st := [.ref (ad Gb 0)]) X T dL_law_130 cm_L_low m_3_55 ⟨Nat.le_of_ble_eq_true rfl, Nat.le_of_ble_eq_true rfl, Nat.le_of_ble_eq_true rfl, Nat.le_of_ble_eq_true rfl⟩ rfl (Nat.le_of_ble_eq_true rfl) rfl (l_low (by decide) ⟨rfl, hq1⟩) fun Mq2 hq2 => ?_
  refine fa_iload X dL_law_133 rfl ?_
  refine fa_bipush (v := 8) X dL_law_135 (by decide) ?_
  refine fa_ishr X dL_law_137 ?_
  refine fa_bipush (v := 6) X dL_law_138 (by decide) ?_
  refine fa_sq (d := 1) (As := [.int (z >>> (8 &&& 31)), .int 6]) (st := [.int (lw (z >>> (5 &&& 31)) 6), .ref (ad Gb 0)]) X T dL_law_140 cm_L_low m_3_55 ⟨Nat.le_of_ble_eq_true rfl, Nat.le_of_ble_eq_true rfl, Nat.le_of_ble_eq_true rfl, Nat.le_of_ble_eq_true rfl⟩ rfl (Nat.le_of_ble_eq_true rfl) rfl (l_low (by decide) ⟨rfl, hq2⟩) fun Mq3 hq3 => ?_
  refine fa_q (d := 5) (As := [.int (lw (z >>> (5 &&& 31)) 6), .int (lw (z >>> (8 &&& 31)) 6)]) (st := []) X T dL_law_143 cm_X10_wear m_2_70 ⟨Nat.le_of_ble_eq_true rfl, Nat.le_of_ble_eq_true rfl, Nat.le_of_ble_eq_true rfl, Nat.le_of_ble_eq_true rfl⟩ rfl (Nat.le_of_ble_eq_true rfl) rfl (f1 Gb _ _ hq3 fun M2 h2 => ⟨rfl, h2⟩) fun Mq4 hq4 => ?_
  refine fa_pop X dL_law_146 rfl ?_
  refine fa_aload_n X dL_law_147 rfl rfl ?_
  refine fa_iload X dL_law_148 rfl ?_
  refine fa_bipush (v := 11) X dL_law_150 (by decide) ?_
  refine fa_ishr X dL_law_152 ?_
  refine fa_bipush (v := 6) X dL_law_153 (by decide) ?_
  refine fa_sq (d := 1) (As := [.int (z >>> (11 &&& 31)), .int 6]) (st := [.ref (ad Gb 0)]) X T dL_law_155 cm_L_low m_3_55 ⟨Nat.le_of_ble_eq_true rfl, Nat.le_of_ble_eq_true rfl, Nat.le_of_ble_eq_true rfl, Nat.le_of_ble_eq_true rfl⟩ rfl (Nat.le_of_ble_eq_true rfl) rfl (l_low (by decide) ⟨rfl, hq4⟩) fun Mq5 hq5 => ?_
  refine fa_q (d := 4) (As := [.int (lw (z >>> (11 &&& 31)) 6)]) (st := []) X T dL_law_158 cm_X10_lose m_2_127 ⟨Nat.le_of_ble_eq_true rfl, Nat.le_of_ble_eq_true rfl, Nat.le_of_ble_eq_true rfl, Nat.le_of_ble_eq_true rfl⟩ rfl (Nat.le_of_ble_eq_true rfl) rfl (f2 Gb _ _ hq5 fun M2 h2 => ⟨rfl, h2⟩) fun Mq6 hq6 => ?_
  refine fa_pop X dL_law_161 rfl ?_
  refine fa_aload_n X dL_law_162 rfl rfl ?_
  refine fa_iload X dL_law_163 rfl ?_
  refine fa_bipush (v := 14) X dL_law_165 (by decide) ?_
  refine fa_ishr X dL_law_167 ?_
  refine fa_bipush (v := 6) X dL_law_168 (by decide) ?_
  refine fa_sq (d := 1) (As := [.int (z >>> (14 &&& 31)), .int 6]) (st := [.ref (ad Gb 0)]) X T dL_law_170 cm_L_low m_3_55 ⟨Nat.le_of_ble_eq_true rfl, Nat.le_of_ble_eq_true rfl, Nat.le_of_ble_eq_true rfl, Nat.le_of_ble_eq_true rfl⟩ rfl (Nat.le_of_ble_eq_true rfl) rfl (l_low (by decide) ⟨rfl, hq6⟩) fun Mq7 hq7 => ?_
  refine fa_q (d := 4) (As := [.int (lw (z >>> (14 &&& 31)) 6)]) (st := []) X T dL_law_173 cm_X10_out m_2_150 ⟨Nat.le_of_ble_eq_true rfl, Nat.le_of_ble_eq_true rfl, Nat.le_of_ble_eq_true rfl, Nat.le_of_ble_eq_true rfl⟩ rfl (Nat.le_of_ble_eq_true rfl) rfl (f3 Gb _ _ hq7 fun M2 h2 => ⟨rfl, h2⟩) fun Mq8 hq8 => ?_
  refine fa_pop X dL_law_176 rfl ?_
  refine fa_aload_n X dL_law_177 rfl rfl ?_
  refine fa_iconst (v := 2) X dL_law_178 (by decide) ?_
  refine fa_q (d := 5) (As := [.int 2]) (st := []) X T dL_law_179 cm_X10_count m_2_233 ⟨Nat.le_of_ble_eq_true rfl, Nat.le_of_ble_eq_true rfl, Nat.le_of_ble_eq_true rfl, Nat.le_of_ble_eq_true rfl⟩ rfl (Nat.le_of_ble_eq_true rfl) rfl (o_cnt hk3 hq8) fun Mq9 hq9 => ?_
  refine fa_iload X dL_law_182 rfl ?_
  refine fa_isub X dL_law_184 ?_
  refine fa_istore (ls' := [some (.ref b), some (.ref (ad Ga 0)), some (.ref (ad Gb 0)), some (.int 1), some (.int (nI i)), some (.int z), some (.int (nI (dL S.2.2.1).length)), some (.long (dg5 S)), none, some (.int ((nI (dL S3.2.2.1).length) - (nI (dL S.2.2.1).length)))]) X dL_law_185 (by decide) rfl rfl ?_
  refine fa_aload_n X dL_law_187 rfl rfl ?_
  refine fa_iload X dL_law_188 rfl ?_
  refine fa_q (d := 4) (As := [.int (nI (dL S.2.2.1).length)]) (st := []) X T dL_law_190 cm_X10_undo m_2_154 ⟨Nat.le_of_ble_eq_true rfl, Nat.le_of_ble_eq_true rfl, Nat.le_of_ble_eq_true rfl, Nat.le_of_ble_eq_true rfl⟩ rfl (Nat.le_of_ble_eq_true rfl) rfl (c_undoC hk3 hq9 lU fun M2 h2 => ⟨rfl, by rw [eU] at h2; exact h2⟩) fun Mq10 hq10 => ?_
  refine fa_iload X dL_law_193 rfl ?_
  refine fa_icmp_ne (tgt := 230) X dL_law_195 (by decide) (fun z => absurd rfl z) (fun _ => ?_)
  refine fa_aload_n X dL_law_198 rfl rfl ?_
  refine fa_iconst (v := 2) X dL_law_199 (by decide) ?_
  refine fa_q (d := 5) (As := [.int 2]) (st := []) X T dL_law_200 cm_X10_count m_2_233 ⟨Nat.le_of_ble_eq_true rfl, Nat.le_of_ble_eq_true rfl, Nat.le_of_ble_eq_true rfl, Nat.le_of_ble_eq_true rfl⟩ rfl (Nat.le_of_ble_eq_true rfl) rfl (o_cnt hk hq10) fun Mq11 hq11 => ?_
  refine fa_iload X dL_law_203 rfl ?_
  refine fa_icmp_ne (tgt := 230) X dL_law_205 (by decide) (fun z => absurd rfl z) (fun _ => ?_)
  refine fa_aload_n X dL_law_208 rfl rfl ?_
  refine fa_q (d := 6) (As := []) (st := []) X T dL_law_209 cm_X10_digest m_3_27 ⟨Nat.le_of_ble_eq_true rfl, Nat.le_of_ble_eq_true rfl, Nat.le_of_ble_eq_true rfl, Nat.le_of_ble_eq_true rfl⟩ rfl (Nat.le_of_ble_eq_true rfl) rfl (o_digest hk hq11) fun Mq12 hq12 => ?_
  refine fa_lload X dL_law_212 rfl ?_
  refine fa_lcmp X dL_law_214 ?_
  rw [lcm_0]
  refine fa_if_ne (tgt := 230) X dL_law_215 (by decide) (fun z => absurd rfl z) (fun _ => ?_)
  refine fa_aload_n X dL_law_218 rfl rfl ?_
  refine fa_aload_n X dL_law_219 rfl rfl ?_
  refine fa_same X T hk hCa hq12 dL_law_220 m_4_149 ⟨Nat.le_of_ble_eq_true rfl, Nat.le_of_ble_eq_true rfl, Nat.le_of_ble_eq_true rfl, Nat.le_of_ble_eq_true rfl⟩ (Nat.le_of_ble_eq_true rfl) fun Mo13 Mq13 ho13 hq13 => ?_
  refine fa_if_eq (tgt := 230) X dL_law_223 (by decide) (fun z => absurd z (by decide)) (fun _ => ?_)
  refine fa_iconst (v := 1) X dL_law_226 (by decide) ?_
  refine fa_goto (tgt := 231) X dL_law_227 (by decide) ?_
  refine fa_istore_n (ls' := [some (.ref b), some (.ref (ad Ga 0)), some (.ref (ad Gb 0)), some (.int 1), some (.int (nI i)), some (.int z), some (.int (nI (dL S.2.2.1).length)), some (.long (dg5 S)), none, some (.int ((nI (dL S3.2.2.1).length) - (nI (dL S.2.2.1).length)))]) X dL_law_231 rfl (by decide) rfl rfl ?_
  refine fa_iload_n X dL_law_232 rfl rfl ?_
  refine fa_if_eq (tgt := 295) X dL_law_233 (by decide) (fun z => absurd z (by decide)) (fun _ => ?_)
  refine fa_aload_n X dL_law_236 rfl rfl ?_
  refine fa_iconst (v := 2) X dL_law_237 (by decide) ?_
  refine fa_q (d := 2) (As := [.int 2]) (st := []) X T dL_law_238 cm_X10_keep m_2_162 ⟨Nat.le_of_ble_eq_true rfl, Nat.le_of_ble_eq_true rfl, Nat.le_of_ble_eq_true rfl, Nat.le_of_ble_eq_true rfl⟩ rfl (Nat.le_of_ble_eq_true rfl) rfl (c_keepC (k := 2) hk hq13 (by decide) (by omega) fun M2 h2 => ⟨rfl, h2⟩) fun Mq14 hq14 => ?_
  refine fa_iload X dL_law_241 rfl ?_
  refine fa_icmp_ne (tgt := 295) X dL_law_243 (by decide) (fun z => absurd rfl z) (fun _ => ?_)
  refine fa_aload_n X dL_law_246 rfl rfl ?_
  refine fa_iconst (v := 2) X dL_law_247 (by decide) ?_
  refine fa_iconst (v := 1) X dL_law_248 (by decide) ?_
  refine fa_iload X dL_law_249 rfl ?_
  refine fa_iconst (v := 3) X dL_law_251 (by decide) ?_
  refine fa_ishr X dL_law_252 ?_
  refine fa_ldc (v := 268435455) X m_4_168 dL_law_253 ?_
  refine fa_iand X dL_law_255 ?_
  refine fa_iadd X dL_law_256 ?_
  rw [ej, show (1 : Int32) + nI j = nI (1 + j) from nI_add 1 j]
  refine fa_q (d := 6) (As := [.int 2, .int (nI (1 + j))]) (st := []) X T dL_law_257 cm_X10_lots m_2_210 ⟨Nat.le_of_ble_eq_true rfl, Nat.le_of_ble_eq_true rfl, Nat.le_of_ble_eq_true rfl, Nat.le_of_ble_eq_true rfl⟩ rfl (Nat.le_of_ble_eq_true rfl) rfl (c_lotsC (n := 2) hkK hq14 (by decide) (by decide) (by omega) hj2 (show 0 < dn S.2.2.1 by omega) (show (dL S.2.2.1).length + 2 ≤ 40 by omega) fun M2 h2 => ⟨rfl, h2⟩) fun Mq15 hq15 => ?_
  refine fa_if_lt (tgt := 295) X dL_law_260 (by decide) (fun z => absurd z (nI_pos (by have := pop_le (sIn (lotN (sK S (fu S.2.2.2.1 2 (some (dL S.2.2.1)))) 2 (1 + j)).2.2.1 0); omega))) (fun _ => ?_)
  refine fa_aload_n X dL_law_263 rfl rfl ?_
  refine fa_iconst (v := 2) X dL_law_264 (by decide) ?_
  refine fa_q (d := 4) (As := [.int 2]) (st := []) X T dL_law_265 cm_X10_on m_2_170 ⟨Nat.le_of_ble_eq_true rfl, Nat.le_of_ble_eq_true rfl, Nat.le_of_ble_eq_true rfl, Nat.le_of_ble_eq_true rfl⟩ rfl (Nat.le_of_ble_eq_true rfl) rfl (c_onC (k := 2) hk4 hq15 (by decide) hn4 fun M2 h2 => ⟨rfl, by rw [eO] at h2; exact h2⟩) fun Mq16 hq16 => ?_
  refine fa_iload X dL_law_268 rfl ?_
  refine fa_icmp_ne (tgt := 295) X dL_law_270 (by decide) (fun z => absurd rfl z) (fun _ => ?_)
  refine fa_aload_n X dL_law_273 rfl rfl ?_
  refine fa_iconst (v := 2) X dL_law_274 (by decide) ?_
  refine fa_o (d := 2) (As := [.int 2]) (st := []) X T dL_law_275 cm_X10_keep m_2_162 ⟨Nat.le_of_ble_eq_true rfl, Nat.le_of_ble_eq_true rfl, Nat.le_of_ble_eq_true rfl, Nat.le_of_ble_eq_true rfl⟩ rfl (Nat.le_of_ble_eq_true rfl) rfl (c_keepC (k := 2) hk ho13 (by decide) (by omega) fun M2 h2 => ⟨rfl, h2⟩) fun Mo17 ho17 => ?_
  refine fa_iload X dL_law_278 rfl ?_
  refine fa_icmp_ne (tgt := 295) X dL_law_280 (by decide) (fun z => absurd rfl z) (fun _ => ?_)
  refine fa_aload_n X dL_law_283 rfl rfl ?_
  refine fa_aload_n X dL_law_284 rfl rfl ?_
  refine fa_same X T hkK ho17 hq16 dL_law_285 m_4_149 ⟨Nat.le_of_ble_eq_true rfl, Nat.le_of_ble_eq_true rfl, Nat.le_of_ble_eq_true rfl, Nat.le_of_ble_eq_true rfl⟩ (Nat.le_of_ble_eq_true rfl) fun Mo18 Mq18 ho18 hq18 => ?_
  refine fa_if_eq (tgt := 295) X dL_law_288 (by decide) (fun z => absurd z (by decide)) (fun _ => ?_)
  refine fa_iconst (v := 1) X dL_law_291 (by decide) ?_
  refine fa_goto (tgt := 296) X dL_law_292 (by decide) ?_
  refine fa_istore_n (ls' := [some (.ref b), some (.ref (ad Ga 0)), some (.ref (ad Gb 0)), some (.int 1), some (.int (nI i)), some (.int z), some (.int (nI (dL S.2.2.1).length)), some (.long (dg5 S)), none, some (.int ((nI (dL S3.2.2.1).length) - (nI (dL S.2.2.1).length)))]) X dL_law_296 rfl (by decide) rfl rfl ?_
  refine fa_mask [true, true, true, true, true, false, false, false, false, false] (ls' := [some (.ref b), some (.ref (ad Ga 0)), some (.ref (ad Gb 0)), some (.int 1), some (.int (nI i)), none, none, none, none, none]) rfl ?_
  exact next _ _ _ hkK h6 ho18 hq18
set_option maxRecDepth 20000 in
theorem lw_round (X : CxA p s m #[Value.ref b] c cL_law 10 R_law) (T : Twn l s A Ga Gb) (hX : va_X b Ln xs s s.heap ∧ b < s.heap.size ∧ ¬ A b) (hLn : Ln < 2 ^ 20) {i : Nat} (hi : i < 20) {S : St} {Ma Mb : Mem} (hk : SOk S) (h6 : dn S.2.2.1 = 6) (hCa : RC S Ma) (hCb : RC S Mb) (next : ∀ (S : St) (Ma Mb : Mem), SOk S → dn S.2.2.1 = 6 → RC S Ma → RC S Mb → FA p l e room_1 s m #[Value.ref b] below meth c A 600000 7302250 Qf 10 (W2 Ga Gb Ma Mb) 297 [some (.ref b), some (.ref (ad Ga 0)), some (.ref (ad Gb 0)), some (.int 1), some (.int (nI i)), none, none, none, none, none] []) : FA p l e room_1 s m #[Value.ref b] below meth c A 600000 7302250 Qf 10 (W2 Ga Gb Ma Mb) 46 [some (.ref b), some (.ref (ad Ga 0)), some (.ref (ad Gb 0)), some (.int 1), some (.int (nI i)), none, none, none, none, none] [] := by
  refine fa_iload_n X dL_law_46 rfl rfl ?_
  refine fa_if_eq (tgt := 303) X dL_law_47 (by decide) (fun z => absurd z (by decide)) (fun _ => ?_)
  refine fa_aload_n X dL_law_50 rfl rfl ?_
  refine fa_iload X dL_law_51 rfl ?_
  refine fa_cell X T hX hi hLn dL_law_53 m_3_51 ⟨Nat.le_of_ble_eq_true rfl, Nat.le_of_ble_eq_true rfl, Nat.le_of_ble_eq_true rfl, Nat.le_of_ble_eq_true rfl⟩ (Nat.le_of_ble_eq_true rfl) fun z => ?_
  obtain ⟨r, S1, hk1, hp, f⟩ := dt_turn hk z
  have h61 : dn S1.2.2.1 = 6 := by rcases hp with q | q <;> omega
  refine fa_istore (ls' := [some (.ref b), some (.ref (ad Ga 0)), some (.ref (ad Gb 0)), some (.int 1), some (.int (nI i)), some (.int z), none, none, none, none]) X dL_law_56 (by decide) rfl rfl ?_
  refine fa_aload_n X dL_law_58 rfl rfl ?_
  refine fa_iload X dL_law_59 rfl ?_
  refine fa_bipush (v := 6) X dL_law_61 (by decide) ?_
  refine fa_ishr X dL_law_63 ?_
  refine fa_sq (d := 13) (As := [.ref (ad Gb 0), .int (z >>> (6 &&& 31))]) (st := []) X T dL_law_64 cm_L_refused m_3_59 ⟨Nat.le_of_ble_eq_true rfl, Nat.le_of_ble_eq_true rfl, Nat.le_of_ble_eq_true rfl, Nat.le_of_ble_eq_true rfl⟩ rfl (Nat.le_of_ble_eq_true rfl) rfl (ref_ok hk hCb z ⟨rfl, hCb⟩) fun Mq1 hq1 => ?_
  refine fa_if_eq (tgt := 97) X dL_law_67 (by decide) (fun z => absurd z (by decide)) (fun _ => ?_)
  refine fa_aload_n X dL_law_70 rfl rfl ?_
  refine fa_iload X dL_law_71 rfl ?_
  refine fa_so (d := 13) (As := [.ref (ad Ga 0), .int z]) (st := []) X T dL_law_73 cm_L_turn m_4_133 ⟨Nat.le_of_ble_eq_true rfl, Nat.le_of_ble_eq_true rfl, Nat.le_of_ble_eq_true rfl, Nat.le_of_ble_eq_true rfl⟩ rfl (Nat.le_of_ble_eq_true rfl) rfl (f Ga _ _ hCa fun M2 h2 => ⟨rfl, h2⟩) fun Mo2 ho2 => ?_
  refine fa_aload_n X dL_law_76 rfl rfl ?_
  refine fa_iload X dL_law_77 rfl ?_
  refine fa_sq (d := 13) (As := [.ref (ad Gb 0), .int z]) (st := [.int r]) X T dL_law_79 cm_L_turn m_4_133 ⟨Nat.le_of_ble_eq_true rfl, Nat.le_of_ble_eq_true rfl, Nat.le_of_ble_eq_true rfl, Nat.le_of_ble_eq_true rfl⟩ rfl (Nat.le_of_ble_eq_true rfl) rfl (f Gb _ _ hq1 fun M2 h2 => ⟨rfl, h2⟩) fun Mq3 hq3 => ?_
  refine fa_icmp_ne (tgt := 97) X dL_law_82 (by decide) (fun z => absurd rfl z) (fun _ => ?_)
  refine fa_aload_n X dL_law_85 rfl rfl ?_
  refine fa_aload_n X dL_law_86 rfl rfl ?_
  refine fa_same X T hk1 ho2 hq3 dL_law_87 m_4_149 ⟨Nat.le_of_ble_eq_true rfl, Nat.le_of_ble_eq_true rfl, Nat.le_of_ble_eq_true rfl, Nat.le_of_ble_eq_true rfl⟩ (Nat.le_of_ble_eq_true rfl) fun Mo4 Mq4 ho4 hq4 => ?_
  refine fa_if_eq (tgt := 97) X dL_law_90 (by decide) (fun z => absurd z (by decide)) (fun _ => ?_)
  refine fa_iconst (v := 1) X dL_law_93 (by decide) ?_
  refine fa_goto (tgt := 98) X dL_law_94 (by decide) ?_
  refine fa_istore_n (ls' := [some (.ref b), some (.ref (ad Ga 0)), some (.ref (ad Gb 0)), some (.int 1), some (.int (nI i)), some (.int z), none, none, none, none]) X dL_law_98 rfl (by decide) rfl rfl ?_
  refine fa_aload_n X dL_law_99 rfl rfl ?_
  refine fa_iconst (v := 2) X dL_law_100 (by decide) ?_
  refine fa_q (d := 5) (As := [.int 2]) (st := []) X T dL_law_101 cm_X10_count m_2_233 ⟨Nat.le_of_ble_eq_true rfl, Nat.le_of_ble_eq_true rfl, Nat.le_of_ble_eq_true rfl, Nat.le_of_ble_eq_true rfl⟩ rfl (Nat.le_of_ble_eq_true rfl) rfl (o_cnt hk1 hq4) fun Mq5 hq5 => ?_
  refine fa_istore (ls' := [some (.ref b), some (.ref (ad Ga 0)), some (.ref (ad Gb 0)), some (.int 1), some (.int (nI i)), some (.int z), some (.int (nI (dL S1.2.2.1).length)), none, none, none]) X dL_law_104 (by decide) rfl rfl ?_
  refine fa_iload X dL_law_106 rfl ?_
  refine fa_bipush (v := 36) X dL_law_108 (by decide) ?_
  have h40 := hk1.2.2.1.2.2.2.1
  refine fa_icmp_ge (tgt := 297) X dL_law_110 (by decide) (fun _ => ?_) (fun q => ?_)
  · refine fa_mask [true, true, true, true, true, false, false, false, false, false] (ls' := [some (.ref b), some (.ref (ad Ga 0)), some (.ref (ad Gb 0)), some (.int 1), some (.int (nI i)), none, none, none, none, none]) rfl ?_
    exact next S1 _ _ hk1 h61 ho4 hq5
  · exact lw_half X T hk1 h61 ho4 hq5 ((nI_ltI (b := 36) (by omega) (by omega)).mp q) next
theorem lw_loop (X : CxA p s m #[Value.ref b] c cL_law 10 R_law) (T : Twn l s A Ga Gb) (hX : va_X b Ln xs s s.heap ∧ b < s.heap.size ∧ ¬ A b) (hLn : Ln < 2 ^ 20) (done : ∀ (i : Nat) (S : St) (Ma Mb : Mem), SOk S → RC S Ma → RC S Mb → FA p l e room_1 s m #[Value.ref b] below meth c A 600000 7302250 Qf 10 (W2 Ga Gb Ma Mb) 303 [some (.ref b), some (.ref (ad Ga 0)), some (.ref (ad Gb 0)), some (.int 1), some (.int (nI i)), none, none, none, none, none] []) : ∀ (k i : Nat) (S : St) (Ma Mb : Mem), i + k = 20 → SOk S → dn S.2.2.1 = 6 → RC S Ma → RC S Mb → FA p l e room_1 s m #[Value.ref b] below meth c A 600000 7302250 Qf 10 (W2 Ga Gb Ma Mb) 39 [some (.ref b), some (.ref (ad Ga 0)), some (.ref (ad Gb 0)), some (.int 1), some (.int (nI i)), none, none, none, none, none] [] := by
  intro k
  induction k with
  | zero =>
    intro i S Ma Mb hi hk h6 hCa hCb
    refine fa_iload X dL_law_39 rfl ?_
    refine fa_bipush (v := 20) X dL_law_41 (by decide) ?_
    exact fa_icmp_ge (tgt := 303) X dL_law_43 (by decide) (fun _ => done i S Ma Mb hk hCa hCb) (fun q => absurd ((nI_ltI (b := 20) (by omega) (by omega)).mp q) (by omega))
  | succ k ih =>
    intro i S Ma Mb hi hk h6 hCa hCb
    refine fa_iload X dL_law_39 rfl ?_
    refine fa_bipush (v := 20) X dL_law_41 (by decide) ?_
    refine fa_icmp_ge (tgt := 303) X dL_law_43 (by decide) (fun q => absurd (show nI i < nI 20 from nI_lt (by omega) (by omega)) q) (fun _ => ?_)
    refine lw_round X T hX hLn (by omega) hk h6 hCa hCb fun S1 Ma1 Mb1 hk1 h61 hCa1 hCb1 => ?_
    refine fa_iinc (v := nI (i + 1)) (ls' := [some (.ref b), some (.ref (ad Ga 0)), some (.ref (ad Gb 0)), some (.int 1), some (.int (nI (i + 1))), none, none, none, none, none]) X dL_law_297 rfl (nI_1 i) (by decide) rfl rfl ?_
    refine fa_goto (tgt := 39) X dL_law_300 (by decide) ?_
    exact ih (i + 1) S1 Ma1 Mb1 (by omega) hk1 h61 hCa1 hCb1
theorem lw_done (X : CxA p s m #[Value.ref b] c cL_law 10 R_law) (T : Twn l s A Ga Gb) (hA : ∀ q, A q → s.heap.size ≤ q) (hr : meth.sig.returnType = ret) (hlocks : meth.locks = false) (i : Nat) (S : St) (Ma Mb : Mem) (hk : SOk S) (hCa : RC S Ma) (hCb : RC S Mb) : FA p l e room_1 s m #[Value.ref b] below meth c A 600000 7302250 (lw_Z below #[Value.ref b] s) 10 (W2 Ga Gb Ma Mb) 303 [some (.ref b), some (.ref (ad Ga 0)), some (.ref (ad Gb 0)), some (.int 1), some (.int (nI i)), none, none, none, none, none] [] := by
  obtain ⟨r, S1, hk1, hp, f⟩ := dt_room hk
  refine fa_iload_n X dL_law_303 rfl rfl ?_
  refine fa_if_eq (tgt := 322) X dL_law_304 (by decide) (fun z => absurd z (by decide)) (fun _ => ?_)
  refine fa_aload_n X dL_law_307 rfl rfl ?_
  refine fa_o (d := 6) (As := []) (st := []) X T dL_law_308 cm_X10_room m_2_178 ⟨Nat.le_of_ble_eq_true rfl, Nat.le_of_ble_eq_true rfl, Nat.le_of_ble_eq_true rfl, Nat.le_of_ble_eq_true rfl⟩ rfl (Nat.le_of_ble_eq_true rfl) rfl (f Ga _ _ hCa fun M2 h2 => ⟨rfl, h2⟩) fun Mo1 ho1 => ?_
  refine fa_aload_n X dL_law_311 rfl rfl ?_
  refine fa_q (d := 6) (As := []) (st := [.int r]) X T dL_law_312 cm_X10_room m_2_178 ⟨Nat.le_of_ble_eq_true rfl, Nat.le_of_ble_eq_true rfl, Nat.le_of_ble_eq_true rfl, Nat.le_of_ble_eq_true rfl⟩ rfl (Nat.le_of_ble_eq_true rfl) rfl (f Gb _ _ hCb fun M2 h2 => ⟨rfl, h2⟩) fun Mq2 hq2 => ?_
  refine fa_icmp_ne (tgt := 322) X dL_law_315 (by decide) (fun z => absurd rfl z) (fun _ => ?_)
  refine fa_iconst (v := 1) X dL_law_318 (by decide) ?_
  refine fa_goto (tgt := 323) X dL_law_319 (by decide) ?_
  intro H locs la hP hS hL
  exact va_forget (fun q hq => hA _ (hS.2.2 q hq)) (lw_ret X.1 X.2.1 hr hlocks dL_law_323)
theorem lw_begin (X : CxA p s m #[Value.ref b] c cL_law 10 R_law) (T : Twn l s A Ga Gb) (hX : va_X b Ln xs s s.heap ∧ b < s.heap.size ∧ ¬ A b) (hLn : Ln < 2 ^ 20) (hA : ∀ q, A q → s.heap.size ≤ q) (hr : meth.sig.returnType = ret) (hlocks : meth.locks = false) {S : St} {Ma Mb : Mem} (hk : SOk S) (hCa : RC S Ma) (hCb : RC S Mb) : FA p l e room_1 s m #[Value.ref b] below meth c A 600000 7302250 (lw_Z below #[Value.ref b] s) 10 (W2 Ga Gb Ma Mb) 16 [some (.ref b), some (.ref (ad Ga 0)), some (.ref (ad Gb 0)), none, none, none, none, none, none, none] [] := by
  obtain ⟨r, S1, hk1, ⟨hr1, h6⟩, f⟩ := dt_drawer hk
  subst hr1
  refine fa_aload_n X dL_law_16 rfl rfl ?_
  refine fa_so (d := 9) (As := [.ref (ad Ga 0)]) (st := []) X T dL_law_17 cm_L_drawer m_4_130 ⟨Nat.le_of_ble_eq_true rfl, Nat.le_of_ble_eq_true rfl, Nat.le_of_ble_eq_true rfl, Nat.le_of_ble_eq_true rfl⟩ rfl (Nat.le_of_ble_eq_true rfl) rfl (f Ga _ _ hCa fun M2 h2 => ⟨rfl, h2⟩) fun Mo1 ho1 => ?_
  refine fa_if_eq (tgt := 34) X dL_law_20 (by decide) (fun z => absurd z (by decide)) (fun _ => ?_)
  refine fa_aload_n X dL_law_23 rfl rfl ?_
  refine fa_sq (d := 9) (As := [.ref (ad Gb 0)]) (st := []) X T dL_law_24 cm_L_drawer m_4_130 ⟨Nat.le_of_ble_eq_true rfl, Nat.le_of_ble_eq_true rfl, Nat.le_of_ble_eq_true rfl, Nat.le_of_ble_eq_true rfl⟩ rfl (Nat.le_of_ble_eq_true rfl) rfl (f Gb _ _ hCb fun M2 h2 => ⟨rfl, h2⟩) fun Mq2 hq2 => ?_
  refine fa_if_eq (tgt := 34) X dL_law_27 (by decide) (fun z => absurd z (by decide)) (fun _ => ?_)
  refine fa_iconst (v := 1) X dL_law_30 (by decide) ?_
  refine fa_goto (tgt := 35) X dL_law_31 (by decide) ?_
  refine fa_istore_n (ls' := [some (.ref b), some (.ref (ad Ga 0)), some (.ref (ad Gb 0)), some (.int 1), none, none, none, none, none, none]) X dL_law_35 rfl (by decide) rfl rfl ?_
  refine fa_iconst (v := 0) X dL_law_36 (by decide) ?_
  refine fa_istore (ls' := [some (.ref b), some (.ref (ad Ga 0)), some (.ref (ad Gb 0)), some (.int 1), some (.int 0), none, none, none, none, none]) X dL_law_37 (by decide) rfl rfl ?_
  exact lw_loop X T hX hLn (lw_done X T hA hr hlocks) 20 0 S1 _ _ rfl hk1 h6 ho1 hq2
end LLP
